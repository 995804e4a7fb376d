import java.lang.reflect.Method;
import java.util.ArrayList;
import java.util.Comparator;
import java.util.List;
import java.util.Random;

/** All promises: rows of calls, the same ones in each run, that the class and the oracle both answer. */
final class OracleTest {
    private static final int RUNS = 300;
    private static final int CALLS = 512;
    private static final String[] WORDS = {"person", "noise", "aunt", "lady", "columbine", "harp", "wet"};
    private static final String[] PARTS = {"person", "noise", "aunt", "lady", "columbine", "harp", "wet",
        "met", "bell", "at", "as", "out", ";", "0", "1", "2", "7", "11", "12", "15", "16", "999", "1000", "#", "x"};

    private final Random random;
    private final Due due;
    private final List<Method> methods = new ArrayList<>();
    private BareThursday x;
    private Oracle y;
    private final List<String> calls = new ArrayList<>();

    private OracleTest(Due itsDue, long seed) {
        due = itsDue;
        random = new Random(seed);
        for (Method m : BareThursday.class.getDeclaredMethods()) {
            if (java.lang.reflect.Modifier.isPublic(m.getModifiers())) {
                methods.add(m);
            }
        }
        methods.sort(Comparator.comparing(Method::getName));
    }

    static void all(Due due) throws Exception {
        due.test("promises 1 to 40: as the oracle answers");
        for (int run = 0; run < RUNS; run++) {
            if (!new OracleTest(due, run).run(run)) {
                return;
            }
        }
    }

    private boolean run(int run) throws Exception {
        x = new BareThursday();
        y = new Oracle();
        if (run % 4 != 0) {
            town();
        }
        int dear = 0;
        for (int i = 0; calls.size() < CALLS; i++) {
            if (i % 40 == 39) {
                text(random.nextInt(3) > 0);
            }
            Method m = methods.get(random.nextInt(methods.size()));
            // The oracle is slow at this one.
            if (m.getName().equals("dark") && dear++ > 3) {
                continue;
            }
            Object[] arguments = new Object[m.getParameterCount()];
            for (int k = 0; k < arguments.length; k++) {
                arguments[k] = argument(m.getName(), k);
            }
            if (m.getName().equals("change") && random.nextInt(8) > 0) {
                arguments[2] = changed((Integer) arguments[1]);
            }
            if (!same(m, arguments)) {
                due.wrong("run " + run + ": " + calls);
                return false;
            }
        }
        return true;
    }

    private boolean same(Method m, Object... arguments) throws Exception {
        Object got = m.invoke(x, arguments);
        Object want = Oracle.class.getMethod(m.getName(), m.getParameterTypes()).invoke(y, arguments);
        calls.add(m.getName() + java.util.Arrays.toString(arguments) + " = " + want);
        if (got.equals(want)) {
            return true;
        }
        due.wrong(calls.get(calls.size() - 1) + " answered " + got);
        return false;
    }

    private boolean same(String name, Integer... arguments) throws Exception {
        for (Method m : methods) {
            if (m.getName().equals(name)) {
                return same(m, (Object[]) arguments);
            }
        }
        throw new IllegalStateException(name);
    }

    private void town() throws Exception {
        int people = 2 + random.nextInt(7);
        int cells = 1 + random.nextInt(16);
        for (int p = 0; p < people; p++) {
            same("person", random.nextInt(7), random.nextInt(cells));
            same("change", p, 2, random.nextInt(12));
        }
        for (int p = 0; p < people; p++) {
            same("change", p, 3, random.nextInt(1 << people) & ~(1 << p));
        }
    }

    private void text(boolean right) throws Exception {
        StringBuilder b = new StringBuilder();
        if (right) {
            for (int i = random.nextInt(5); i >= 0; i--) {
                b.append(item()).append(i == 0 ? "" : ";");
            }
        } else {
            for (int i = random.nextInt(12); i >= 0; i--) {
                b.append(PARTS[random.nextInt(PARTS.length)]).append(random.nextInt(4) == 0 ? "" : " ");
            }
        }
        same("wipe");
        for (int i = 0; i < b.length(); i += 4) {
            int bytes = 0;
            int n = 0;
            for (; n < 4 && i + n < b.length(); n++) {
                bytes = bytes << 8 | b.charAt(i + n);
            }
            same("feed", bytes, n);
        }
        same("text");
    }

    private String item() {
        int what = random.nextInt(4);
        if (what == 0) {
            return "met " + random.nextInt(4) + " " + random.nextInt(8);
        }
        if (what == 1) {
            return "bell " + random.nextInt(13);
        }
        return WORDS[random.nextInt(7)] + (random.nextBoolean() ? " at " + random.nextInt(16) : "")
                + (random.nextBoolean() ? " as " + random.nextInt(12) : "") + (random.nextInt(4) == 0 ? " out" : "");
    }

    private int changed(int what) {
        return switch (what) {
            case 0 -> random.nextInt(7);
            case 1 -> random.nextInt(16);
            case 2 -> random.nextInt(12);
            case 3, 4 -> random.nextInt(256) & random.nextInt(256);
            case 5 -> random.nextInt(2);
            default -> random.nextInt(30) + (random.nextBoolean() ? 9970 : 0);
        };
    }

    private int argument(String name, int k) {
        int wild = random.nextInt(60);
        if (wild == 0) {
            return random.nextInt();
        }
        if (wild == 1) {
            return new int[] {-1, -2, Integer.MIN_VALUE, Integer.MAX_VALUE}[random.nextInt(4)];
        }
        if (name.equals("sheet") && k == 1) {
            return new int[] {0, 8, 8, 16, 16, 32, 32, 7, 64}[random.nextInt(9)];
        }
        if (name.equals("seed") || name.equals("feed") && k == 0) {
            return random.nextInt();
        }
        int least = name.equals("hold") && k == 1 || name.equals("status") ? -1 : 0;
        return least + random.nextInt(size(name, k) - least + 1);
    }

    /** One argument's values, and one beyond. */
    private int size(String name, int k) {
        return switch (name + k) {
            case "person0", "as1" -> 7;
            case "person1", "who0" -> 16;
            case "of1" -> 11;
            case "change1", "ahead1", "status0" -> 7;
            case "change2" -> 300;
            case "minds1" -> 12;
            case "two2", "when2" -> 3;
            case "go0", "standFor1", "guiseFor1", "kindFor1" -> 61;
            case "now0", "count0" -> 8;
            case "ahead2", "joy0" -> 101;
            case "passed1" -> random.nextBoolean() ? 30 : 10000;
            case "dark0" -> 25;
            case "circle0", "odds2" -> 2;
            case "fits0", "kinds0", "load0", "judge0", "sheet0", "write0", "copy0", "copy2" -> 4;
            case "night0" -> 21;
            case "odds1" -> 18;
            case "hold0", "as0" -> 10;
            case "feed1" -> 5;
            case "sheet2" -> random.nextBoolean() ? 41 : 9;
            case "write1" -> 12;
            case "write2" -> random.nextBoolean() ? 12 : 70000;
            case "copy1", "copy3", "copy4" -> random.nextBoolean() ? 4 : 41;
            default -> Math.max(1, y.count(1));
        };
    }
}
