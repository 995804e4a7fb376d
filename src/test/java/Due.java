import java.util.ArrayList;
import java.util.List;

/** Counts tests: a test is a name and the calls told until the next name. */
final class Due {
    static final int BEYOND = -1000001;
    static final int FULL = -1000002;
    static final int KIND = -1000003;
    static final int NONE = -1000004;
    static final int STATE = -1000005;
    static final int MISSING = -1000006;
    static final int SIZE = -1000007;

    private int passed;
    private int failed;
    private String name;
    private boolean right;
    private final List<String> names = new ArrayList<>();

    void test(String itsName) {
        close();
        name = itsName;
        right = true;
        names.add(itsName);
    }

    List<String> names() {
        return names;
    }

    void is(String call, long got, long want) {
        if (got != want) {
            wrong(call + " answered " + got + ", due is " + want);
        }
    }

    void same(String call, String got, String want) {
        if (!got.equals(want)) {
            wrong(call + " told\n  " + got + ", due is\n  " + want);
        }
    }

    void wrong(String what) {
        if (right) {
            System.out.println("FAILED " + name);
        }
        right = false;
        System.out.println("  " + what);
    }

    boolean end() {
        close();
        System.out.println(passed + " passed, " + failed + " failed");
        return failed == 0 && passed > 0;
    }

    private void close() {
        if (name == null) {
            return;
        }
        if (right) {
            passed++;
        } else {
            failed++;
        }
        name = null;
    }
}
