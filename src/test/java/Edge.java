import java.util.function.Supplier;

/** What the tests of boundary cases share: towns to refuse in, and all that can be seen of an object. */
final class Edge {
    /** One call. */
    interface Act {
        long on(BareThursday x);
    }

    static final int MAX = Integer.MAX_VALUE;
    static final int MIN = Integer.MIN_VALUE;

    private Edge() {
    }

    /** In a town of three, each act answers the finding, and changes nothing but status(). */
    static void refused(Due due, String name, int finding, Act... acts) {
        refusedIn(due, name, Edge::few, finding, acts);
    }

    static void refusedIn(Due due, String name, Supplier<BareThursday> town, int finding, Act... acts) {
        due.test(name);
        for (int i = 0; i < acts.length; i++) {
            String act = "act " + i;
            BareThursday x = town.get();
            BareThursday untouched = town.get();
            due.is(act, acts[i].on(x), finding);
            for (int which = -1; which <= 6; which++) {
                int more = which == -1 || which == Due.BEYOND - finding ? 1 : 0;
                due.is(act + ", then status(" + which + ")", x.status(which), untouched.status(which) + more);
            }
            due.same(act + ", then all", seen(x), seen(untouched));
        }
    }

    /** Three people, things in spots, sheets 0 to 2, a tape, an image of how it was before. */
    static BareThursday few() {
        BareThursday x = Towns.of("lady at 3 as 4;columbine at 9 as 9 out;wet at 15 as 11;met 0 1;bell 7");
        x.change(0, 4, 2);
        x.change(2, 6, 12);
        x.seed(99);
        x.hold(4, 1);
        x.image();
        x.go(2);
        x.seed(-7);
        x.hold(4, 0);
        x.hold(9, 2);
        Towns.row(x, 0, 8, 5, 6, 7);
        Towns.row(x, 1, 8, 1, 2);
        Towns.row(x, 2, 16, 8, 9, 10, 11);
        Towns.feed(x, "harp at ");
        return x;
    }

    /** Eight people and 120 bytes of tape; no image; the forty numbers of sheet 3. */
    static BareThursday many() {
        BareThursday x = new BareThursday();
        for (int p = 0; p < 8; p++) {
            x.person(p % 7, 2 * p);
        }
        for (int i = 0; i < 30; i++) {
            x.feed(0x626C6C20, 4);
        }
        x.sheet(3, 32, 40);
        return x;
    }

    /** Nobody, and DAY so many days ahead of 99999 (0 to 39): more than the 512 calls of the document. */
    static BareThursday old(int days) {
        BareThursday x = new BareThursday();
        for (int i = 0; i < 1666; i++) {
            x.go(60);
        }
        if (days < 39) {
            x.go(39 - days);
        }
        return x;
    }

    /** All that an object answers of what it holds; asking uses it up. */
    static String seen(BareThursday x) {
        StringBuilder told = new StringBuilder();
        told.append(Towns.all(x)).append(spots(x));
        for (int s = 0; s < 4; s++) {
            told.append(" | ").append(x.judge(s)).append(' ').append(x.load(s)).append(':');
            for (int p = 0; p < x.count(1); p++) {
                told.append(' ').append(x.of(p, 2));
            }
            // The last number there is tells how many there are, the kind of finding of how many bits.
            for (int i = 1; i <= 5; i++) {
                told.append(' ').append(x.write(s, i, 0));
            }
            for (int t = 0; t < s; t++) {
                told.append(' ').append(x.copy(s, 0, t, 0, 0));
            }
        }
        told.append(" | ").append(x.text()).append(Towns.all(x));
        told.append(" | ").append(x.undo()).append(Towns.all(x)).append(spots(x));
        return told.toString();
    }

    private static String spots(BareThursday x) {
        StringBuilder told = new StringBuilder(" |");
        for (int spot = 0; spot < 10; spot++) {
            told.append(' ').append(x.as(spot, 0));
        }
        return told.toString();
    }

    /** A town of so many of one kind at cell 0, all of whom met each other. */
    static BareThursday friends(int many, int kind) {
        BareThursday x = new BareThursday();
        for (int p = 0; p < many; p++) {
            x.person(kind, 0);
        }
        for (int p = 0; p < many; p++) {
            x.change(p, 3, (1 << many) - 1 & ~(1 << p));
        }
        return x;
    }

    /** A town as the text tells, on a DAY up to 120. */
    static BareThursday on(int day, String text) {
        BareThursday x = Towns.of(text);
        int left = day;
        while (left > 0) {
            int n = Math.min(left, 11);
            Towns.read(x, "bell " + n);
            left -= n;
        }
        return x;
    }
}
