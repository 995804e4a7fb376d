import java.util.ArrayList;
import java.util.Arrays;
import java.util.List;
import java.util.Set;
import java.util.TreeSet;

/**
 * The document once more, written apart from the class and in another way (objects for people, sets
 * for sets, a new town for each question), so that a slip in the one is not in the other.
 */
public final class Oracle {
    private static final List<String> WORDS = List.of("person", "noise", "aunt", "lady", "columbine", "harp", "wet");

    private static class One {
        int number;
        int kind;
        int cell;
        int guise;
        Set<Integer> met = new TreeSet<>();
        Set<Integer> knows = new TreeSet<>();
        boolean out;
        int passed;

        One copied() {
            One c = new One();
            c.number = number;
            c.kind = kind;
            c.cell = cell;
            c.guise = guise;
            c.met = new TreeSet<>(met);
            c.knows = new TreeSet<>(knows);
            c.out = out;
            c.passed = passed;
            return c;
        }

        int walks(int as, int day) {
            return switch (as) {
                case 0 -> 1;
                case 1 -> 3 * walks(0, day);
                case 6 -> walks(1, day) - 1;
                case 2 -> (day & 1) == 1 ? 1 : 0;
                case 3 -> walks(2, day) + 1;
                case 4 -> day % 12 == 11 ? 5 : 0;
                default -> 0;
            };
        }

        int shifts(int as, int day) {
            return switch (as) {
                case 0 -> 1;
                case 1 -> 2 * shifts(0, day);
                case 6 -> shifts(1, day);
                case 3 -> shifts(2, day) + (day % 3 == 0 ? 1 : 0);
                case 4 -> 5;
                default -> 0;
            };
        }

        boolean minds(int as, int g) {
            return switch (as) {
                case 0 -> g != guise;
                case 1 -> true;
                case 6 -> (g & 1) == 1;
                case 2 -> g <= 5;
                case 3 -> minds(2, g) || g == guise;
                case 4 -> {
                    if (g == 9) {
                        yield true;
                    }
                    yield met.isEmpty() ? minds(3, g) : false;
                }
                default -> false;
            };
        }

        int shines(int as) {
            return switch (as) {
                case 0 -> 1;
                case 1 -> shines(0) - 1;
                case 6 -> shines(1);
                case 2 -> shines(0) + 1;
                case 3 -> shines(2);
                case 4 -> 2 * shines(3);
                default -> 0;
            };
        }

        int gladdens(int as) {
            return switch (as) {
                case 0 -> 1;
                case 1 -> gladdens(0);
                case 6 -> 20;
                case 2 -> gladdens(0) + 2;
                case 3 -> gladdens(2) + knows.size();
                case 4 -> 3 * gladdens(3);
                default -> 0;
            };
        }
    }

    private static final class Place {
        List<One> people = new ArrayList<>();
        int day;
        int joy;
        int z = 1;
        Integer[] spots = new Integer[10];

        Place copied() {
            Place c = new Place();
            for (One one : people) {
                c.people.add(one.copied());
            }
            c.day = day;
            c.joy = joy;
            c.z = z;
            c.spots = spots.clone();
            return c;
        }

        Place behind(int days) {
            Place c = copied();
            for (int i = 0; i < days; i++) {
                c.aDay();
            }
            return c;
        }

        One put(int kind, int cell) {
            One one = new One();
            one.number = people.size();
            one.kind = kind;
            one.cell = cell;
            people.add(one);
            return one;
        }

        int far(One a, One b) {
            int on = Math.floorMod(a.cell - b.cell, 16);
            return on > 8 ? 16 - on : on;
        }

        boolean see(One a, One b) {
            return !a.out && !b.out && far(a, b) <= a.shines(a.kind) && far(a, b) <= b.shines(b.kind);
        }

        static boolean eachIn(One a, One b, boolean know) {
            return know ? a.knows.contains(b.number) && b.knows.contains(a.number)
                    : a.met.contains(b.number) && b.met.contains(a.number);
        }

        void aDay() {
            boolean theDay = day % 12 == 11;
            for (One one : people) {
                one.cell = (one.cell + one.walks(one.kind, day)) % 16;
            }
            if (!theDay) {
                for (One one : people) {
                    one.guise = (one.guise + one.shifts(one.kind, day)) % 12;
                }
            }
            for (One a : people) {
                for (One b : people) {
                    if (a.number >= b.number) {
                        continue;
                    }
                    if (theDay && see(a, b)) {
                        onTheDay(a, b);
                    }
                    if (!theDay && a.cell == b.cell) {
                        if (a.minds(a.kind, b.guise)) {
                            a.met.add(b.number);
                        }
                        if (b.minds(b.kind, a.guise)) {
                            b.met.add(a.number);
                        }
                    }
                }
            }
            if (day < 99999) {
                day++;
            }
        }

        private void onTheDay(One a, One b) {
            if (!eachIn(a, b, false)) {
                a.passed = Math.min(9999, a.passed + 1);
                b.passed = Math.min(9999, b.passed + 1);
                return;
            }
            if (!a.knows.contains(b.number)) {
                joy = Math.min(99999, joy + a.gladdens(a.kind));
                a.knows.add(b.number);
            }
            if (!b.knows.contains(a.number)) {
                joy = Math.min(99999, joy + b.gladdens(b.kind));
                b.knows.add(a.number);
            }
        }

        int pairs(boolean know) {
            int n = 0;
            for (One a : people) {
                for (One b : people) {
                    if (a.number < b.number && eachIn(a, b, know)) {
                        n++;
                    }
                }
            }
            return n;
        }
    }

    private Place place = new Place();
    private Place kept;
    private final List<Integer> tape = new ArrayList<>();
    private final int[][] sheets = new int[4][];
    private final int[] bits = new int[4];
    private final int[] told = new int[7];

    public Oracle() {
    }

    private int find(int which) {
        told[which]++;
        return -1000001 - which;
    }

    private boolean none(int person) {
        return person < 0 || person >= place.people.size();
    }

    private boolean notTwo(int a, int b) {
        return none(a) || none(b) || a == b;
    }

    private static boolean not(int v, int least, int most) {
        return v < least || v > most;
    }

    private static int asBits(Set<Integer> set) {
        int b = 0;
        for (int i : set) {
            b += 1 << i;
        }
        return b;
    }

    private static Set<Integer> asSet(int b) {
        Set<Integer> set = new TreeSet<>();
        for (int i = 0; i < 32; i++) {
            if ((b >>> i & 1) == 1) {
                set.add(i);
            }
        }
        return set;
    }

    public int person(int kind, int cell) {
        if (not(kind, 0, 6) || not(cell, 0, 15)) {
            return find(0);
        }
        if (place.people.size() == 8) {
            return find(1);
        }
        return place.put(kind, cell).number;
    }

    private static int tell(Place at, int person, int what) {
        One one = at.people.get(person);
        return switch (what) {
            case 0 -> one.kind;
            case 1 -> one.cell;
            case 2 -> one.guise;
            case 3 -> asBits(one.met);
            case 4 -> asBits(one.knows);
            case 5 -> one.out ? 1 : 0;
            case 6 -> one.passed;
            case 7 -> one.walks(one.kind, at.day);
            case 8 -> one.shifts(one.kind, at.day);
            case 9 -> one.shines(one.kind);
            default -> one.gladdens(one.kind);
        };
    }

    private static void become(Place at, int person, int what, int v) {
        One one = at.people.get(person);
        switch (what) {
            case 0 -> one.kind = v;
            case 1 -> one.cell = v;
            case 2 -> one.guise = v;
            case 3 -> one.met = asSet(v);
            case 4 -> one.knows = asSet(v);
            case 5 -> one.out = v == 1;
            default -> one.passed = v;
        }
    }

    public int of(int person, int what) {
        return none(person) || not(what, 0, 10) ? find(0) : tell(place, person, what);
    }

    public int change(int person, int what, int v) {
        if (none(person) || not(what, 0, 6)) {
            return find(0);
        }
        int[] mosts = {6, 15, 11, 255, 255, 1, 9999};
        if (not(v, 0, mosts[what])) {
            return find(0);
        }
        if (what == 3 || what == 4) {
            for (int i : asSet(v)) {
                if (none(i) || i == person) {
                    return find(0);
                }
            }
        }
        int was = tell(place, person, what);
        become(place, person, what, v);
        return was;
    }

    public int minds(int person, int guise) {
        if (none(person) || not(guise, 0, 11)) {
            return find(0);
        }
        One one = place.people.get(person);
        return one.minds(one.kind, guise) ? 1 : 0;
    }

    public int far(int a, int b) {
        return notTwo(a, b) ? find(0) : place.far(place.people.get(a), place.people.get(b));
    }

    public int who(int cell) {
        if (not(cell, 0, 15)) {
            return find(0);
        }
        Set<Integer> there = new TreeSet<>();
        for (One one : place.people) {
            if (one.cell == cell) {
                there.add(one.number);
            }
        }
        return asBits(there);
    }

    public int two(int a, int b, int what) {
        if (notTwo(a, b) || not(what, 0, 2)) {
            return find(0);
        }
        One first = place.people.get(a);
        One other = place.people.get(b);
        boolean so = what == 2 ? place.see(first, other) : Place.eachIn(first, other, what == 1);
        return so ? 1 : 0;
    }

    public int go(int n) {
        if (not(n, 1, 60)) {
            return find(0);
        }
        if (place.day + n > 99999) {
            return find(4);
        }
        place = place.behind(n);
        return place.joy;
    }

    public int now(int what) {
        switch (what) {
            case 0:
                return place.day;
            case 1:
                return place.joy;
            case 2:
                Set<Integer> knowers = new TreeSet<>();
                for (One one : place.people) {
                    if (!one.knows.isEmpty()) {
                        knowers.add(one.number);
                    }
                }
                return asBits(knowers);
            case 3:
                return place.pairs(true);
            case 4:
                return place.pairs(false);
            case 5:
                Set<Integer> worn = new TreeSet<>();
                for (One one : place.people) {
                    worn.add(one.guise);
                }
                return asBits(worn);
            case 6:
                return place.people.stream().mapToInt(one -> one.passed).sum();
            case 7:
                return place.day % 12 == 11 ? 1 : 0;
            default:
                return find(0);
        }
    }

    public int ahead(int person, int what, int n) {
        if (none(person) || !List.of(1, 2, 3, 4, 6).contains(what) || not(n, 0, 100)) {
            return find(0);
        }
        return tell(place.behind(n), person, what);
    }

    public int joy(int n) {
        return not(n, 0, 100) ? find(0) : place.behind(n).joy;
    }

    public int when(int a, int b, int what) {
        if (notTwo(a, b) || not(what, 0, 2)) {
            return find(0);
        }
        Place then = place.copied();
        for (int d = 0; d < 201; d++, then.aDay()) {
            One first = then.people.get(a);
            One other = then.people.get(b);
            if (what == 2 ? first.cell == other.cell : Place.eachIn(first, other, what == 1)) {
                return d;
            }
        }
        return find(3);
    }

    public int known() {
        Place then = place.copied();
        for (int d = 0; d < 201; d++, then.aDay()) {
            for (One one : then.people) {
                if (!one.knows.isEmpty()) {
                    return d;
                }
            }
        }
        return find(3);
    }

    public int passed(int person, int v) {
        if (none(person) || not(v, 0, 9999)) {
            return find(0);
        }
        Place then = place.copied();
        for (int d = 0; d < 201; d++, then.aDay()) {
            if (then.people.get(person).passed >= v) {
                return d;
            }
        }
        return find(3);
    }

    private int bestOf(int person, int n, int what, int values) {
        if (none(person) || not(n, 0, 60)) {
            return find(0);
        }
        int[] joys = new int[values];
        for (int v = 0; v < values; v++) {
            Place then = place.copied();
            become(then, person, what, v);
            joys[v] = then.behind(n).joy;
        }
        int most = Arrays.stream(joys).max().getAsInt();
        int v = 0;
        while (joys[v] != most) {
            v++;
        }
        return v;
    }

    public int standFor(int person, int n) {
        return bestOf(person, n, 1, 16);
    }

    public int guiseFor(int person, int n) {
        return bestOf(person, n, 2, 12);
    }

    public int kindFor(int person, int n) {
        return bestOf(person, n, 0, 7);
    }

    public int dark(int n) {
        if (not(n, 0, 24)) {
            return find(0);
        }
        int best = -1;
        for (int set = (1 << place.people.size()) - 1; set >= 0; set--) {
            Place then = place.copied();
            for (int i : asSet(set)) {
                then.people.get(i).out = true;
            }
            boolean asNow = then.behind(n).joy == place.joy;
            if (asNow && (best < 0 || Integer.bitCount(set) <= Integer.bitCount(best))) {
                best = set;
            }
        }
        return best < 0 ? find(3) : best;
    }

    public int circle(int what) {
        if (not(what, 0, 1)) {
            return find(0);
        }
        int best = 0;
        for (int set = (1 << place.people.size()) - 1; set > 0; set--) {
            boolean so = true;
            for (int a : asSet(set)) {
                for (int b : asSet(set)) {
                    so &= a == b || Place.eachIn(place.people.get(a), place.people.get(b), what == 1);
                }
            }
            if (so && Integer.bitCount(set) >= Integer.bitCount(best)) {
                best = set;
            }
        }
        return best;
    }

    private int possible(int s, int person, int what, int values) {
        if (not(s, 0, 3)) {
            return find(0);
        }
        if (sheets[s] == null) {
            return find(5);
        }
        if (none(person)) {
            return find(0);
        }
        Set<Integer> set = new TreeSet<>();
        for (int v = 0; v < values; v++) {
            Place then = place.copied();
            become(then, person, what, v);
            boolean so = true;
            for (int number : sheets[s]) {
                so &= number == -1 || number == tell(then, person, 3);
                then.aDay();
            }
            if (so) {
                set.add(v);
            }
        }
        return asBits(set);
    }

    public int fits(int s, int person) {
        return possible(s, person, 2, 12);
    }

    public int kinds(int s, int person) {
        return possible(s, person, 0, 7);
    }

    private int drawn(int by) {
        place.z = (int) (place.z * 1103515245L + 12345L);
        return (place.z >>> 8) % by;
    }

    public int night(int n) {
        if (not(n, 1, 20)) {
            return find(0);
        }
        if (place.day + n > 99999) {
            return find(4);
        }
        for (int i = 0; i < n; i++) {
            int person = drawn(8);
            int cell = drawn(16);
            int guise = drawn(12);
            if (!none(person)) {
                place.people.get(person).cell = cell;
                place.people.get(person).guise = guise;
            }
            place.aDay();
        }
        return place.joy;
    }

    public long odds(int person, int n, int what) {
        if (none(person) || not(n, 0, 17) || not(what, 0, 1)) {
            return find(0);
        }
        One one = place.people.get(person);
        java.math.BigInteger above = java.math.BigInteger.ONE;
        java.math.BigInteger below = java.math.BigInteger.ONE;
        for (int i = 0; i < n; i++) {
            int such = 0;
            for (int g = 0; g < 12; g++) {
                such += one.minds(one.kind, g) ? 1 : 0;
            }
            above = above.multiply(java.math.BigInteger.valueOf(such));
            below = below.multiply(java.math.BigInteger.valueOf(12));
        }
        java.math.BigInteger common = above.gcd(below);
        return (what == 0 ? above : below).divide(common).longValueExact();
    }

    public int seed(int v) {
        int was = place.z;
        place.z = v;
        return was;
    }

    public int feed(int bytes, int n) {
        if (not(n, 1, 4)) {
            return find(0);
        }
        if (tape.size() + n > 120) {
            return find(1);
        }
        byte[] four = java.nio.ByteBuffer.allocate(4).putInt(bytes).array();
        for (int i = 4 - n; i < 4; i++) {
            tape.add(four[i] & 255);
        }
        return tape.size();
    }

    public int wipe() {
        int was = tape.size();
        tape.clear();
        return was;
    }

    private record Token(String word, int number, int place) {
    }

    /** A fault ends the reading at once. */
    private static final class Fault extends RuntimeException {
        private static final long serialVersionUID = 1L;
        final int place;

        Fault(int itsPlace) {
            place = itsPlace;
        }
    }

    private final List<Token> tokens = new ArrayList<>();
    private int next;

    private void cut() {
        StringBuilder all = new StringBuilder();
        for (int b : tape) {
            all.append((char) b);
        }
        tokens.clear();
        next = 0;
        java.util.regex.Matcher m = java.util.regex.Pattern
                .compile("[a-z]+|[0-9]+|;|[^ ]", java.util.regex.Pattern.DOTALL).matcher(all);
        while (m.find()) {
            String word = m.group();
            int number = -1;
            if (word.matches("[0-9]+")) {
                java.math.BigInteger big = new java.math.BigInteger(word);
                number = big.bitLength() > 9 ? 1000 : big.intValue();
            }
            tokens.add(new Token(word, number, m.start()));
        }
        tokens.add(new Token("end", -2, all.length()));
    }

    private Token peek() {
        return tokens.get(next);
    }

    private boolean take(String word) {
        if (peek().number == -1 && peek().word.equals(word)) {
            next++;
            return true;
        }
        return false;
    }

    private int takeNumber(int most) {
        if (not(peek().number, 0, most)) {
            throw new Fault(peek().place);
        }
        return tokens.get(next++).number;
    }

    public int text() {
        cut();
        tape.clear();
        Place then = place.copied();
        int items = 0;
        try {
            do {
                item(then);
                items++;
            } while (take(";"));
            if (peek().number != -2) {
                throw new Fault(peek().place);
            }
        } catch (Fault fault) {
            return -1 - fault.place;
        }
        place = then;
        return items;
    }

    private void item(Place then) {
        if (take("met")) {
            int a = takeNumber(then.people.size() - 1);
            int at = peek().place;
            int b = takeNumber(then.people.size() - 1);
            if (a == b) {
                throw new Fault(at);
            }
            then.people.get(a).met.add(b);
            then.people.get(b).met.add(a);
            return;
        }
        if (take("bell")) {
            then.day = Math.min(99999, then.day + takeNumber(11));
            return;
        }
        int at = peek().place;
        int kind = WORDS.indexOf(peek().word);
        if (kind < 0 || then.people.size() == 8) {
            throw new Fault(at);
        }
        next++;
        One one = then.put(kind, 0);
        if (take("at")) {
            one.cell = takeNumber(15);
        }
        if (take("as")) {
            one.guise = takeNumber(11);
        }
        one.out = take("out");
    }

    public int hold(int spot, int person) {
        if (not(spot, 0, 9) || person != -1 && none(person)) {
            return find(0);
        }
        place.spots[spot] = person == -1 ? null : person;
        return 1;
    }

    public int as(int spot, int kind) {
        if (not(spot, 0, 9) || not(kind, 0, 6)) {
            return find(0);
        }
        if (place.spots[spot] == null) {
            return find(5);
        }
        int[] parents = {-1, 0, 0, 2, 3, 0, 1};
        for (int k = place.people.get(place.spots[spot]).kind; k >= 0; k = parents[k]) {
            if (k == kind) {
                return place.spots[spot];
            }
        }
        return find(2);
    }

    public int sheet(int s, int itsBits, int n) {
        if (not(s, 0, 3) || !List.of(0, 8, 16, 32).contains(itsBits)) {
            return find(0);
        }
        if (n < 0) {
            return find(6);
        }
        if (n > 40) {
            return find(0);
        }
        bits[s] = itsBits;
        sheets[s] = itsBits == 0 ? null : new int[n];
        return itsBits == 0 ? 0 : n;
    }

    public int write(int s, int i, int v) {
        if (not(s, 0, 3)) {
            return find(0);
        }
        if (sheets[s] == null) {
            return find(5);
        }
        if (not(i, 0, sheets[s].length - 1)) {
            return find(0);
        }
        int off = 32 - bits[s];
        sheets[s][i] = v << off >> off;
        return 1;
    }

    public int copy(int s, int from, int t, int to, int n) {
        if (not(s, 0, 3) || not(t, 0, 3)) {
            return find(0);
        }
        if (sheets[s] == null || sheets[t] == null) {
            return find(5);
        }
        if (bits[s] != bits[t]) {
            return find(2);
        }
        if (from < 0 || to < 0 || n < 0 || (long) from + n > sheets[s].length || (long) to + n > sheets[t].length) {
            return find(0);
        }
        int[] were = sheets[s].clone();
        for (int i = 0; i < n; i++) {
            sheets[t][to + i] = were[from + i];
        }
        return n;
    }

    public int load(int s) {
        if (not(s, 0, 3)) {
            return find(0);
        }
        if (sheets[s] == null) {
            return find(5);
        }
        int came = 0;
        for (int guise : sheets[s]) {
            if (not(guise, 0, 11) || none(came)) {
                break;
            }
            place.people.get(came).guise = guise;
            came++;
        }
        return came;
    }

    public int judge(int s) {
        if (not(s, 0, 3)) {
            return find(0);
        }
        if (sheets[s] == null) {
            return find(5);
        }
        int at = 0;
        for (int knows : sheets[s]) {
            if (none(at) || asBits(place.people.get(at).knows) != knows) {
                return 1 + at;
            }
            at++;
        }
        return 0;
    }

    public int image() {
        kept = place.copied();
        return 1;
    }

    public int undo() {
        if (kept == null) {
            return find(3);
        }
        place = kept.copied();
        return place.day;
    }

    public int tear() {
        int was = kept == null ? 0 : 1;
        kept = null;
        return was;
    }

    public int count(int what) {
        return switch (what) {
            case 0 -> place.day;
            case 1 -> place.people.size();
            case 2 -> place.joy;
            case 3 -> place.pairs(true);
            case 4 -> now(6);
            case 5 -> tape.size();
            case 6 -> place.z;
            case 7 -> (int) Arrays.stream(place.spots).filter(spot -> spot != null).count();
            default -> find(0);
        };
    }

    public int status(int which) {
        if (which == -1) {
            return Arrays.stream(told).sum();
        }
        return not(which, 0, 6) ? find(0) : told[which];
    }
}
