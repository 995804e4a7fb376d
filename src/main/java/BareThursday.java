import java.util.Arrays;

/**
 * A town of cells in a ring, its people in their guises, and the one day of twelve on which they
 * go barefaced. The promises that the comments name are those of ../shared/DOC.md.
 */
public final class BareThursday {
    // The findings by number; what an act answers is LOW less the number.
    private static final int LOW = -1000001;
    private static final int BEYOND = 0;
    private static final int FULL = 1;
    private static final int OTHER_KIND = 2;
    private static final int NONE = 3;
    private static final int STATE = 4;
    private static final int MISSING = 5;
    private static final int SIZE = 6;
    private static final int FINDINGS = 7;

    private static final int GO_MOST = 60;
    private static final int AHEAD_MOST = 100;
    private static final int SEARCH_MOST = 200;
    private static final int STAND_MOST = 60;
    private static final int DARK_MOST = 24;
    private static final int NIGHT_MOST = 20;
    // 12 to the 17th is the last power of 12 that a long holds.
    private static final int ODDS_MOST = 17;
    private static final int FEED_MOST = 4;

    private final Town town = new Town();
    // What would be is played here, so that the town itself stays as it is.
    private final Town trial = new Town();
    private final Town kept = new Town();
    private boolean isKept;
    private final Tape tape = new Tape();
    private final Sheets sheets = new Sheets();
    // Outside the town, for undo() takes none of them back.
    private final int[] found = new int[FINDINGS];

    public BareThursday() {
    }

    // ---- town, people

    public int person(int kind, int cell) {
        if (!isIn(kind, Town.KINDS) || !isIn(cell, Town.CELLS)) {
            return finding(BEYOND);
        }
        if (town.isFull()) {
            return finding(FULL);
        }
        return town.add(kind, cell);
    }

    public int of(int person, int what) {
        if (!town.isThere(person) || !isIn(what, Town.TRAITS)) {
            return finding(BEYOND);
        }
        return town.trait(person, what);
    }

    public int change(int person, int what, int v) {
        if (!town.isThere(person) || !town.canBecome(person, what, v)) {
            return finding(BEYOND);
        }
        int before = town.trait(person, what);
        town.put(person, what, v);
        return before;
    }

    public int minds(int person, int guise) {
        if (!town.isThere(person) || !isIn(guise, Town.GUISES)) {
            return finding(BEYOND);
        }
        return bit(town.mindsGuise(person, guise));
    }

    public int far(int a, int b) {
        if (!town.areTwo(a, b)) {
            return finding(BEYOND);
        }
        return town.distance(a, b);
    }

    public int who(int cell) {
        if (!isIn(cell, Town.CELLS)) {
            return finding(BEYOND);
        }
        return town.peopleAt(cell);
    }

    public int two(int a, int b, int what) {
        if (!town.areTwo(a, b)) {
            return finding(BEYOND);
        }
        switch (what) {
            case 0:
                return bit(town.bothMet(a, b));
            case 1:
                return bit(town.bothKnow(a, b));
            case 2:
                return bit(town.wouldSee(a, b));
            default:
                return finding(BEYOND);
        }
    }

    // ---- days

    public int go(int n) {
        if (n < 1 || n > GO_MOST) {
            return finding(BEYOND);
        }
        if (!town.hasDays(n)) {
            return finding(STATE);
        }
        town.passDays(n);
        return town.joy;
    }

    public int now(int what) {
        switch (what) {
            case 0:
                return town.day;
            case 1:
                return town.joy;
            case 2:
                return town.knowers();
            case 3:
                return town.knowingPairs();
            case 4:
                return town.metPairs();
            case 5:
                return town.wornGuises();
            case 6:
                return town.passedInAll();
            case 7:
                return bit(Town.isTheDay(town.day));
            default:
                return finding(BEYOND);
        }
    }

    // ---- what will be (nothing changes)

    public int ahead(int person, int what, int n) {
        boolean told = what == Town.CELL || what == Town.GUISE || what == Town.MET
                || what == Town.KNOWS || what == Town.PASSED;
        if (!town.isThere(person) || !told || n < 0 || n > AHEAD_MOST) {
            return finding(BEYOND);
        }
        trial.become(town);
        trial.passDays(n);
        return trial.trait(person, what);
    }

    public int joy(int n) {
        if (n < 0 || n > AHEAD_MOST) {
            return finding(BEYOND);
        }
        trial.become(town);
        trial.passDays(n);
        return trial.joy;
    }

    public int when(int a, int b, int what) {
        if (!town.areTwo(a, b) || what < 0 || what > 2) {
            return finding(BEYOND);
        }
        trial.become(town);
        for (int days = 0; days <= SEARCH_MOST; days++) {
            if (isSo(trial, a, b, what)) {
                return days;
            }
            trial.passDay();
        }
        return finding(NONE);
    }

    private static boolean isSo(Town t, int a, int b, int what) {
        switch (what) {
            case 0:
                return t.bothMet(a, b);
            case 1:
                return t.bothKnow(a, b);
            default:
                return t.distance(a, b) == 0;
        }
    }

    public int known() {
        trial.become(town);
        for (int days = 0; days <= SEARCH_MOST; days++) {
            if (trial.knowers() != 0) {
                return days;
            }
            trial.passDay();
        }
        return finding(NONE);
    }

    public int passed(int person, int v) {
        if (!town.isThere(person) || v < 0 || v > Town.PASSED_MOST) {
            return finding(BEYOND);
        }
        trial.become(town);
        for (int days = 0; days <= SEARCH_MOST; days++) {
            if (trial.trait(person, Town.PASSED) >= v) {
                return days;
            }
            trial.passDay();
        }
        return finding(NONE);
    }

    // ---- where to stand

    public int standFor(int person, int n) {
        return mostJoyous(person, Town.CELL, Town.CELLS, n);
    }

    public int guiseFor(int person, int n) {
        return mostJoyous(person, Town.GUISE, Town.GUISES, n);
    }

    public int kindFor(int person, int n) {
        return mostJoyous(person, Town.KIND, Town.KINDS, n);
    }

    private int mostJoyous(int person, int what, int values, int n) {
        if (!town.isThere(person) || n < 0 || n > STAND_MOST) {
            return finding(BEYOND);
        }
        int best = 0;
        int most = -1;
        for (int v = 0; v < values; v++) {
            trial.become(town);
            trial.put(person, what, v);
            trial.passDays(n);
            if (trial.joy > most) {
                most = trial.joy;
                best = v;
            }
        }
        return best;
    }

    public int dark(int n) {
        if (n < 0 || n > DARK_MOST) {
            return finding(BEYOND);
        }
        for (int size = 0; size <= town.people; size++) {
            for (int set = 0; set <= town.everybody(); set++) {
                if (Integer.bitCount(set) == size && staysJoyless(set, n)) {
                    return set;
                }
            }
        }
        return finding(NONE);
    }

    private boolean staysJoyless(int set, int n) {
        trial.become(town);
        trial.putOut(set);
        // JOY never falls, so the first rise decides.
        for (int i = 0; i < n && trial.joy == town.joy; i++) {
            trial.passDay();
        }
        return trial.joy == town.joy;
    }

    public int circle(int what) {
        if (what != 0 && what != 1) {
            return finding(BEYOND);
        }
        int best = 0;
        for (int set = 1; set <= town.everybody(); set++) {
            if (Integer.bitCount(set) > Integer.bitCount(best) && town.isCircle(set, what == 1)) {
                best = set;
            }
        }
        return best;
    }

    // ---- told meetings

    public int fits(int s, int person) {
        return fitting(s, person, Town.GUISE, Town.GUISES);
    }

    public int kinds(int s, int person) {
        return fitting(s, person, Town.KIND, Town.KINDS);
    }

    private int fitting(int s, int person, int what, int values) {
        if (!isIn(s, Sheets.SHEETS)) {
            return finding(BEYOND);
        }
        if (sheets.isMissing(s)) {
            return finding(MISSING);
        }
        if (!town.isThere(person)) {
            return finding(BEYOND);
        }
        int set = 0;
        for (int v = 0; v < values; v++) {
            trial.become(town);
            trial.put(person, what, v);
            if (meetsAsTold(s, person)) {
                set |= 1 << v;
            }
        }
        return set;
    }

    private boolean meetsAsTold(int s, int person) {
        for (int i = 0; i < sheets.length(s); i++) {
            if (i > 0) {
                trial.passDay();
            }
            int told = sheets.number(s, i);
            if (told != -1 && told != trial.trait(person, Town.MET)) {
                return false;
            }
        }
        return true;
    }

    // ---- nights

    public int night(int n) {
        if (n < 1 || n > NIGHT_MOST) {
            return finding(BEYOND);
        }
        if (!town.hasDays(n)) {
            return finding(STATE);
        }
        for (int i = 0; i < n; i++) {
            int person = town.draw() % Town.PEOPLE_MOST;
            int cell = town.draw() % Town.CELLS;
            int guise = town.draw() % Town.GUISES;
            if (town.isThere(person)) {
                town.put(person, Town.CELL, cell);
                town.put(person, Town.GUISE, guise);
            }
            town.passDay();
        }
        return town.joy;
    }

    public long odds(int person, int n, int what) {
        if (!town.isThere(person) || n < 0 || n > ODDS_MOST || what < 0 || what > 1) {
            return finding(BEYOND);
        }
        int minded = town.mindedGuises(person);
        int divisor = divisorWithGuises(minded);
        // A power of a fraction in lowest terms is in lowest terms.
        long part = (what == 0 ? minded : Town.GUISES) / divisor;
        long power = 1;
        for (int i = 0; i < n; i++) {
            power *= part;
        }
        return power;
    }

    private static int divisorWithGuises(int number) {
        for (int d = Town.GUISES; d > 1; d--) {
            if (number % d == 0 && Town.GUISES % d == 0) {
                return d;
            }
        }
        return 1;
    }

    public int seed(int v) {
        int before = town.z;
        town.z = v;
        return before;
    }

    // ---- texts

    public int feed(int bytes, int n) {
        if (n < 1 || n > FEED_MOST) {
            return finding(BEYOND);
        }
        if (n > tape.room()) {
            return finding(FULL);
        }
        for (int i = n - 1; i >= 0; i--) {
            tape.add(bytes >>> (8 * i) & 255);
        }
        return tape.length();
    }

    public int wipe() {
        return tape.empty();
    }

    public int text() {
        trial.become(town);
        int answer = tape.readText(trial);
        tape.empty();
        if (answer >= 0) {
            town.become(trial);
        }
        return answer;
    }

    // ---- spots, sheets

    public int hold(int spot, int person) {
        if (!isIn(spot, Town.SPOTS) || (person != Town.NOBODY && !town.isThere(person))) {
            return finding(BEYOND);
        }
        town.spots[spot] = person;
        return 1;
    }

    public int as(int spot, int kind) {
        if (!isIn(spot, Town.SPOTS) || !isIn(kind, Town.KINDS)) {
            return finding(BEYOND);
        }
        int person = town.spots[spot];
        if (!town.isThere(person)) {
            return finding(MISSING);
        }
        if (!Kinds.isUnder(town.trait(person, Town.KIND), kind)) {
            return finding(OTHER_KIND);
        }
        return person;
    }

    public int sheet(int s, int bits, int n) {
        if (!isIn(s, Sheets.SHEETS) || (bits != 0 && bits != 8 && bits != 16 && bits != 32)) {
            return finding(BEYOND);
        }
        if (n < 0) {
            return finding(SIZE);
        }
        if (n > Sheets.NUMBERS_MOST) {
            return finding(BEYOND);
        }
        sheets.lay(s, bits, bits == 0 ? 0 : n);
        return sheets.length(s);
    }

    public int write(int s, int i, int v) {
        if (!isIn(s, Sheets.SHEETS)) {
            return finding(BEYOND);
        }
        if (sheets.isMissing(s)) {
            return finding(MISSING);
        }
        if (!isIn(i, sheets.length(s))) {
            return finding(BEYOND);
        }
        sheets.put(s, i, v);
        return 1;
    }

    public int copy(int s, int from, int t, int to, int n) {
        if (!isIn(s, Sheets.SHEETS) || !isIn(t, Sheets.SHEETS)) {
            return finding(BEYOND);
        }
        if (sheets.isMissing(s) || sheets.isMissing(t)) {
            return finding(MISSING);
        }
        if (sheets.bits(s) != sheets.bits(t)) {
            return finding(OTHER_KIND);
        }
        if (!sheets.hasPart(s, from, n) || !sheets.hasPart(t, to, n)) {
            return finding(BEYOND);
        }
        sheets.move(s, from, t, to, n);
        return n;
    }

    public int load(int s) {
        if (!isIn(s, Sheets.SHEETS)) {
            return finding(BEYOND);
        }
        if (sheets.isMissing(s)) {
            return finding(MISSING);
        }
        int most = Math.min(sheets.length(s), town.people);
        for (int i = 0; i < most; i++) {
            int guise = sheets.number(s, i);
            if (!isIn(guise, Town.GUISES)) {
                return i;
            }
            town.put(i, Town.GUISE, guise);
        }
        return most;
    }

    public int judge(int s) {
        if (!isIn(s, Sheets.SHEETS)) {
            return finding(BEYOND);
        }
        if (sheets.isMissing(s)) {
            return finding(MISSING);
        }
        for (int i = 0; i < sheets.length(s); i++) {
            // Of nobody, no number tells whom it KNOWS.
            if (!town.isThere(i) || sheets.number(s, i) != town.trait(i, Town.KNOWS)) {
                return 1 + i;
            }
        }
        return 0;
    }

    // ---- images

    public int image() {
        kept.become(town);
        isKept = true;
        return 1;
    }

    public int undo() {
        if (!isKept) {
            return finding(NONE);
        }
        town.become(kept);
        return town.day;
    }

    public int tear() {
        int before = bit(isKept);
        isKept = false;
        return before;
    }

    public int count(int what) {
        switch (what) {
            case 0:
                return town.day;
            case 1:
                return town.people;
            case 2:
                return town.joy;
            case 3:
                return town.knowingPairs();
            case 4:
                return town.passedInAll();
            case 5:
                return tape.length();
            case 6:
                return town.z;
            case 7:
                return town.heldSpots();
            default:
                return finding(BEYOND);
        }
    }

    public int status(int which) {
        if (which == -1) {
            int all = 0;
            for (int i = 0; i < FINDINGS; i++) {
                all += found[i];
            }
            return all;
        }
        if (!isIn(which, FINDINGS)) {
            return finding(BEYOND);
        }
        return found[which];
    }

    private int finding(int which) {
        if (isIn(which, FINDINGS)) {
            found[which]++;
        }
        return LOW - which;
    }

    private static boolean isIn(int value, int size) {
        return value >= 0 && value < size;
    }

    private static int bit(boolean so) {
        return so ? 1 : 0;
    }

    /** What the kinds of people do, by kind (term 1); what depends on more than that is an argument. */
    private static final class Kinds {
        static final int PERSON = 0;
        static final int NOISE = 1;
        static final int AUNT = 2;
        static final int LADY = 3;
        static final int COLUMBINE = 4;
        static final int HARP = 5;
        static final int WET = 6;
        static final int NO_KIND = -1;
        // No kind is more than this many steps under PERSON.
        private static final int DEEPEST = 3;

        private Kinds() {
        }

        private static int above(int kind) {
            switch (kind) {
                case NOISE:
                case AUNT:
                case HARP:
                    return PERSON;
                case LADY:
                    return AUNT;
                case COLUMBINE:
                    return LADY;
                case WET:
                    return NOISE;
                default:
                    return NO_KIND;
            }
        }

        /** A kind counts as under itself. */
        static boolean isUnder(int kind, int upper) {
            int at = kind;
            for (int step = 0; step < DEEPEST && at != upper; step++) {
                at = above(at);
            }
            return at == upper;
        }

        static int walk(int kind, int day) {
            int aunt = day % 2;
            switch (kind) {
                case NOISE:
                    return 3;
                case WET:
                    return 2;
                case AUNT:
                    return aunt;
                case LADY:
                    return aunt + 1;
                case COLUMBINE:
                    return Town.isTheDay(day) ? 5 : 0;
                case HARP:
                    return 0;
                default:
                    return 1;
            }
        }

        static int shift(int kind, int day) {
            switch (kind) {
                case NOISE:
                case WET:
                    return 2;
                case AUNT:
                case HARP:
                    return 0;
                case LADY:
                    return day % 3 == 0 ? 1 : 0;
                case COLUMBINE:
                    return 5;
                default:
                    return 1;
            }
        }

        static boolean mind(int kind, int guise, int own, boolean metNobody) {
            boolean aunt = guise <= 5;
            boolean lady = aunt || guise == own;
            switch (kind) {
                case NOISE:
                    return true;
                case WET:
                    return guise % 2 == 1;
                case AUNT:
                    return aunt;
                case LADY:
                    return lady;
                case COLUMBINE:
                    return guise == 9 || (metNobody && lady);
                case HARP:
                    return false;
                default:
                    return guise != own;
            }
        }

        static int shine(int kind) {
            switch (kind) {
                case NOISE:
                case WET:
                case HARP:
                    return 0;
                case AUNT:
                case LADY:
                    return 2;
                case COLUMBINE:
                    return 4;
                default:
                    return 1;
            }
        }

        static int gladden(int kind, int knownAlready) {
            int lady = 3 + knownAlready;
            switch (kind) {
                case WET:
                    return 20;
                case AUNT:
                    return 3;
                case LADY:
                    return lady;
                case COLUMBINE:
                    return 3 * lady;
                case HARP:
                    return 0;
                default:
                    return 1;
            }
        }
    }

    /** All that an image keeps: people, day, joy, draws, spots. */
    private static final class Town {
        static final int KINDS = 7;
        static final int CELLS = 16;
        static final int GUISES = 12;
        static final int PEOPLE_MOST = 8;
        static final int SPOTS = 10;
        static final int NOBODY = -1;
        static final int DAY_MOST = 99999;
        static final int JOY_MOST = 99999;
        static final int PASSED_MOST = 9999;

        // What may be told of one, as of() numbers it.
        static final int KIND = 0;
        static final int CELL = 1;
        static final int GUISE = 2;
        static final int MET = 3;
        static final int KNOWS = 4;
        static final int OUT = 5;
        static final int PASSED = 6;
        private static final int WALKS = 7;
        private static final int SHIFTS = 8;
        private static final int SHINES = 9;
        static final int TRAITS = 11;

        int people;
        int day;
        int joy;
        int z = 1;
        final int[] spots = new int[SPOTS];
        private final int[] kind = new int[PEOPLE_MOST];
        private final int[] cell = new int[PEOPLE_MOST];
        private final int[] guise = new int[PEOPLE_MOST];
        private final int[] met = new int[PEOPLE_MOST];
        private final int[] knows = new int[PEOPLE_MOST];
        private final int[] out = new int[PEOPLE_MOST];
        private final int[] passes = new int[PEOPLE_MOST];

        Town() {
            Arrays.fill(spots, NOBODY);
        }

        void become(Town other) {
            people = other.people;
            day = other.day;
            joy = other.joy;
            z = other.z;
            System.arraycopy(other.spots, 0, spots, 0, SPOTS);
            System.arraycopy(other.kind, 0, kind, 0, PEOPLE_MOST);
            System.arraycopy(other.cell, 0, cell, 0, PEOPLE_MOST);
            System.arraycopy(other.guise, 0, guise, 0, PEOPLE_MOST);
            System.arraycopy(other.met, 0, met, 0, PEOPLE_MOST);
            System.arraycopy(other.knows, 0, knows, 0, PEOPLE_MOST);
            System.arraycopy(other.out, 0, out, 0, PEOPLE_MOST);
            System.arraycopy(other.passes, 0, passes, 0, PEOPLE_MOST);
        }

        static boolean isTheDay(int d) {
            return d % 12 == 11;
        }

        boolean isThere(int p) {
            return p >= 0 && p < people;
        }

        boolean areTwo(int a, int b) {
            return isThere(a) && isThere(b) && a != b;
        }

        boolean isFull() {
            return people >= PEOPLE_MOST;
        }

        int everybody() {
            return (1 << people) - 1;
        }

        int add(int newKind, int newCell) {
            if (isFull()) {
                return NOBODY;
            }
            int p = people;
            people++;
            // All else is as at first here: a place is given back by become() alone, which takes all back.
            put(p, KIND, newKind);
            put(p, CELL, newCell);
            return p;
        }

        int trait(int p, int what) {
            if (!isThere(p)) {
                return 0;
            }
            switch (what) {
                case KIND:
                    return kind[p];
                case CELL:
                    return cell[p];
                case GUISE:
                    return guise[p];
                case MET:
                    return met[p];
                case KNOWS:
                    return knows[p];
                case OUT:
                    return out[p];
                case PASSED:
                    return passes[p];
                case WALKS:
                    return Kinds.walk(kind[p], day);
                case SHIFTS:
                    return Kinds.shift(kind[p], day);
                case SHINES:
                    return Kinds.shine(kind[p]);
                default:
                    return Kinds.gladden(kind[p], Integer.bitCount(knows[p]));
            }
        }

        boolean canBecome(int p, int what, int v) {
            switch (what) {
                case KIND:
                    return isIn(v, KINDS);
                case CELL:
                    return isIn(v, CELLS);
                case GUISE:
                    return isIn(v, GUISES);
                case MET:
                case KNOWS:
                    return isSetOfOthers(p, v);
                case OUT:
                    return isIn(v, 2);
                case PASSED:
                    return v >= 0 && v <= PASSED_MOST;
                default:
                    return false;
            }
        }

        private boolean isSetOfOthers(int p, int set) {
            int others = everybody() & ~(1 << p);
            return (set & ~others) == 0;
        }

        void put(int p, int what, int v) {
            if (!isThere(p)) {
                return;
            }
            switch (what) {
                case KIND:
                    kind[p] = v;
                    break;
                case CELL:
                    cell[p] = v;
                    break;
                case GUISE:
                    guise[p] = v;
                    break;
                case MET:
                    met[p] = v;
                    break;
                case KNOWS:
                    knows[p] = v;
                    break;
                case OUT:
                    out[p] = v;
                    break;
                case PASSED:
                    passes[p] = v;
                    break;
                default:
                    break;
            }
        }

        void putOut(int set) {
            for (int p = 0; p < people; p++) {
                if (holds(set, p)) {
                    out[p] = 1;
                }
            }
        }

        // ---- how it is

        int distance(int a, int b) {
            int way = Math.abs(cell[a] - cell[b]);
            return Math.min(way, CELLS - way);
        }

        int peopleAt(int c) {
            int set = 0;
            for (int p = 0; p < people; p++) {
                if (cell[p] == c) {
                    set |= 1 << p;
                }
            }
            return set;
        }

        boolean mindsGuise(int p, int g) {
            return Kinds.mind(kind[p], g, guise[p], met[p] == 0);
        }

        int mindedGuises(int p) {
            int minded = 0;
            for (int g = 0; g < GUISES; g++) {
                if (mindsGuise(p, g)) {
                    minded++;
                }
            }
            return minded;
        }

        boolean bothMet(int a, int b) {
            return isMutual(met, a, b);
        }

        boolean bothKnow(int a, int b) {
            return isMutual(knows, a, b);
        }

        boolean wouldSee(int a, int b) {
            return out[a] == 0 && out[b] == 0
                    && distance(a, b) <= Math.min(Kinds.shine(kind[a]), Kinds.shine(kind[b]));
        }

        int knowers() {
            int set = 0;
            for (int p = 0; p < people; p++) {
                if (knows[p] != 0) {
                    set |= 1 << p;
                }
            }
            return set;
        }

        int knowingPairs() {
            return mutualPairs(knows);
        }

        int metPairs() {
            return mutualPairs(met);
        }

        private int mutualPairs(int[] sets) {
            int pairs = 0;
            for (int a = 0; a < people; a++) {
                for (int b = a + 1; b < people; b++) {
                    if (isMutual(sets, a, b)) {
                        pairs++;
                    }
                }
            }
            return pairs;
        }

        boolean isCircle(int set, boolean ofKnowing) {
            int[] sets = ofKnowing ? knows : met;
            for (int p = 0; p < people; p++) {
                if (holds(set, p) && (set & ~(sets[p] | 1 << p)) != 0) {
                    return false;
                }
            }
            return true;
        }

        int wornGuises() {
            int set = 0;
            for (int p = 0; p < people; p++) {
                set |= 1 << guise[p];
            }
            return set;
        }

        int passedInAll() {
            int all = 0;
            for (int p = 0; p < people; p++) {
                all += passes[p];
            }
            return all;
        }

        int heldSpots() {
            int held = 0;
            for (int i = 0; i < SPOTS; i++) {
                if (spots[i] != NOBODY) {
                    held++;
                }
            }
            return held;
        }

        private static boolean isMutual(int[] sets, int a, int b) {
            return holds(sets[a], b) && holds(sets[b], a);
        }

        private static boolean holds(int set, int p) {
            return (set >> p & 1) == 1;
        }

        // ---- how it goes on (term 2)

        boolean hasDays(int n) {
            return n <= DAY_MOST - day;
        }

        void skipDays(int n) {
            day = Math.min(DAY_MOST, day + n);
        }

        void passDays(int n) {
            for (int i = 0; i < n; i++) {
                passDay();
            }
        }

        void passDay() {
            boolean theDay = isTheDay(day);
            for (int p = 0; p < people; p++) {
                cell[p] = (cell[p] + Kinds.walk(kind[p], day)) % CELLS;
                if (!theDay) {
                    guise[p] = (guise[p] + Kinds.shift(kind[p], day)) % GUISES;
                }
            }
            for (int a = 0; a < people; a++) {
                for (int b = a + 1; b < people; b++) {
                    if (theDay) {
                        seeEachOther(a, b);
                    } else if (cell[a] == cell[b]) {
                        mingle(a, b);
                    }
                }
            }
            skipDays(1);
        }

        private void mingle(int a, int b) {
            if (mindsGuise(a, guise[b])) {
                met[a] |= 1 << b;
            }
            if (mindsGuise(b, guise[a])) {
                met[b] |= 1 << a;
            }
        }

        void meetEachOther(int a, int b) {
            if (areTwo(a, b)) {
                met[a] |= 1 << b;
                met[b] |= 1 << a;
            }
        }

        private void seeEachOther(int a, int b) {
            if (!wouldSee(a, b)) {
                return;
            }
            if (bothMet(a, b)) {
                comeToKnow(a, b);
                comeToKnow(b, a);
            } else {
                goBy(a);
                goBy(b);
            }
        }

        private void comeToKnow(int p, int other) {
            if (holds(knows[p], other)) {
                return;
            }
            int gladness = Kinds.gladden(kind[p], Integer.bitCount(knows[p]));
            joy = Math.min(JOY_MOST, joy + gladness);
            knows[p] |= 1 << other;
        }

        private void goBy(int p) {
            passes[p] = Math.min(PASSED_MOST, passes[p] + 1);
        }

        int draw() {
            z = z * 1103515245 + 12345;
            return z >>> 8;
        }
    }

    /** The tape, and how it is read as a text (term 3). */
    private static final class Tape {
        private static final int TAPE_MOST = 120;
        private static final int NUMBER_MOST = 999;
        private static final int BELL_MOST = 11;

        // What a token may be.
        private static final int END = 0;
        private static final int WORD = 1;
        private static final int NUMBER = 2;
        private static final int SIGN = 3;
        private static final int NO_TOKEN = 4;

        private final int[] bytes = new int[TAPE_MOST];
        private int length;
        // The present token: what it is, its first byte, the byte behind it, its value.
        private int token;
        private int begin;
        private int end;
        private int number;

        int length() {
            return length;
        }

        int room() {
            return TAPE_MOST - length;
        }

        int empty() {
            int before = length;
            length = 0;
            return before;
        }

        void add(int b) {
            if (length < TAPE_MOST) {
                bytes[length] = b;
                length++;
            }
        }

        /** How many items, or -1 less the fault: then the town is half told, and to be given up. */
        int readText(Town town) {
            end = 0;
            nextToken();
            int items = 0;
            while (items < TAPE_MOST && readItem(town)) {
                items++;
                if (token == END) {
                    return items;
                }
                if (token != SIGN) {
                    break;
                }
                nextToken();
            }
            // Who can't take a token leaves it the present one, so that it is the fault.
            return -1 - begin;
        }

        private boolean readItem(Town town) {
            int kind = kindOfWord();
            if (kind != Kinds.NO_KIND) {
                return readOne(kind, town);
            }
            if (isWord("met")) {
                return readMet(town);
            }
            return isWord("bell") && readBell(town);
        }

        private int kindOfWord() {
            if (isWord("person")) {
                return Kinds.PERSON;
            }
            if (isWord("noise")) {
                return Kinds.NOISE;
            }
            if (isWord("aunt")) {
                return Kinds.AUNT;
            }
            if (isWord("lady")) {
                return Kinds.LADY;
            }
            if (isWord("columbine")) {
                return Kinds.COLUMBINE;
            }
            if (isWord("harp")) {
                return Kinds.HARP;
            }
            return isWord("wet") ? Kinds.WET : Kinds.NO_KIND;
        }

        private boolean readOne(int kind, Town town) {
            if (town.isFull()) {
                return false;
            }
            nextToken();
            int cell = 0;
            int guise = 0;
            if (isWord("at")) {
                nextToken();
                if (!isNumberBelow(Town.CELLS)) {
                    return false;
                }
                cell = number;
                nextToken();
            }
            if (isWord("as")) {
                nextToken();
                if (!isNumberBelow(Town.GUISES)) {
                    return false;
                }
                guise = number;
                nextToken();
            }
            int person = town.add(kind, cell);
            town.put(person, Town.GUISE, guise);
            if (isWord("out")) {
                town.put(person, Town.OUT, 1);
                nextToken();
            }
            return true;
        }

        private boolean readMet(Town town) {
            nextToken();
            if (!isNumberBelow(town.people)) {
                return false;
            }
            int first = number;
            nextToken();
            if (!isNumberBelow(town.people) || number == first) {
                return false;
            }
            town.meetEachOther(first, number);
            nextToken();
            return true;
        }

        private boolean readBell(Town town) {
            nextToken();
            if (!isNumberBelow(BELL_MOST + 1)) {
                return false;
            }
            town.skipDays(number);
            nextToken();
            return true;
        }

        private boolean isNumberBelow(int size) {
            return token == NUMBER && number < size;
        }

        private boolean isWord(String word) {
            if (token != WORD || end - begin != word.length()) {
                return false;
            }
            for (int i = 0; i < word.length(); i++) {
                if (bytes[begin + i] != word.charAt(i)) {
                    return false;
                }
            }
            return true;
        }

        private void nextToken() {
            begin = end;
            while (begin < length && bytes[begin] == ' ') {
                begin++;
            }
            end = begin;
            if (begin >= length) {
                token = END;
            } else if (isLetter(bytes[begin])) {
                token = WORD;
                passWord();
            } else if (isDigit(bytes[begin])) {
                token = NUMBER;
                passNumber();
            } else {
                token = bytes[begin] == ';' ? SIGN : NO_TOKEN;
                end = begin + 1;
            }
        }

        private void passWord() {
            while (end < length && isLetter(bytes[end])) {
                end++;
            }
        }

        private void passNumber() {
            number = 0;
            while (end < length && isDigit(bytes[end])) {
                // One above the most stands for all that are above it: longer rows would wrap.
                number = Math.min(NUMBER_MOST + 1, number * 10 + bytes[end] - '0');
                end++;
            }
        }

        private static boolean isLetter(int b) {
            return b >= 'a' && b <= 'z';
        }

        private static boolean isDigit(int b) {
            return b >= '0' && b <= '9';
        }
    }

    /** The sheets 0 to 3, all in one row, so that none is ever made anew. */
    private static final class Sheets {
        static final int SHEETS = 4;
        static final int NUMBERS_MOST = 40;

        private final int[] bits = new int[SHEETS];
        private final int[] lengths = new int[SHEETS];
        private final int[] numbers = new int[SHEETS * NUMBERS_MOST];

        void lay(int s, int itsBits, int length) {
            bits[s] = itsBits;
            lengths[s] = length;
            Arrays.fill(numbers, s * NUMBERS_MOST, (s + 1) * NUMBERS_MOST, 0);
        }

        boolean isMissing(int s) {
            return bits[s] == 0;
        }

        int bits(int s) {
            return bits[s];
        }

        int length(int s) {
            return lengths[s];
        }

        int number(int s, int i) {
            return numbers[s * NUMBERS_MOST + i];
        }

        void put(int s, int i, int v) {
            numbers[s * NUMBERS_MOST + i] = lowest(bits[s], v);
        }

        private static int lowest(int itsBits, int v) {
            switch (itsBits) {
                case 8:
                    return (byte) v;
                case 16:
                    return (short) v;
                default:
                    return v;
            }
        }

        boolean hasPart(int s, int from, int n) {
            // The sum of from and n might wrap.
            return from >= 0 && n >= 0 && from <= lengths[s] - n;
        }

        void move(int s, int from, int t, int to, int n) {
            System.arraycopy(numbers, s * NUMBERS_MOST + from, numbers, t * NUMBERS_MOST + to, n);
        }
    }
}
