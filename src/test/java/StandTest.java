/** Promises 16 to 20: where to stand, whose light to put out, circles. */
final class StandTest {
    private static final String TOWN = "person as 3;noise at 4;aunt at 9 as 2;lady at 5;columbine at 3 as 9;wet at 2 as 1";

    private StandTest() {
    }

    static void all(Due due) {
        standFor(due);
        guiseFor(due);
        kindFor(due);
        byTrying(due);
        beyond(due);
        dark(due);
        darkEdges(due);
        circle(due);
        circleEdges(due);
    }

    private static void standFor(Due due) {
        due.test("promise 16: the cell for most joy, the least of several");
        BareThursday x = Towns.of("person at 9;person at 5;met 0 1");
        due.is("standFor(0, 12)", x.standFor(0, 12), 4);
        due.is("standFor(1, 12)", x.standFor(1, 12), 8);
        due.is("standFor(0, 11)", x.standFor(0, 11), 0);
        due.is("standFor(0, 0)", x.standFor(0, 0), 0);
        x.change(1, 1, 15);
        due.is("standFor(0, 12)", x.standFor(0, 12), 0);
        x.change(1, 1, 14);
        due.is("standFor(0, 12)", x.standFor(0, 12), 13);
        due.is("of(0, 1)", x.of(0, 1), 9);
        due.is("now(0)", x.now(0), 0);
    }

    private static void guiseFor(Due due) {
        due.test("promise 17: the guise for most joy, the least of several");
        BareThursday x = Towns.of("person as 6;person;harp at 9;noise at 2");
        due.is("guiseFor(0, 12)", x.guiseFor(0, 12), 1);
        due.is("guiseFor(0, 11)", x.guiseFor(0, 11), 0);
        x.change(1, 2, 1);
        due.is("guiseFor(0, 12)", x.guiseFor(0, 12), 0);
        // A wet minds odd guises, and both of these shift by two.
        x = Towns.of("wet;wet as 5");
        due.is("guiseFor(0, 12)", x.guiseFor(0, 12), 1);
        x.change(1, 2, 4);
        due.is("guiseFor(0, 12)", x.guiseFor(0, 12), 0);
        due.is("of(0, 2)", x.of(0, 2), 0);
    }

    private static void kindFor(Due due) {
        due.test("promise 18: the kind for most joy, the least of several");
        BareThursday x = Towns.of("wet;person;met 0 1");
        due.is("kindFor(0, 12)", x.kindFor(0, 12), Towns.PERSON);
        x = Towns.of("wet;harp at 5;met 0 1");
        due.is("kindFor(0, 12)", x.kindFor(0, 12), Towns.COLUMBINE);
        due.is("kindFor(0, 11)", x.kindFor(0, 11), Towns.PERSON);
        x = Towns.of("harp;harp at 8;met 0 1");
        due.is("kindFor(0, 12)", x.kindFor(0, 12), Towns.WET);
        due.is("of(0, 0)", x.of(0, 0), Towns.HARP);
    }

    private static void byTrying(Due due) {
        due.test("promises 16 to 18: as trying each tells");
        int[] values = {7, 16, 12};
        for (int p = 0; p < 6; p++) {
            for (int n = 11; n <= 60; n += 7) {
                BareThursday x = Towns.of(TOWN);
                String before = Towns.all(x);
                due.is("kindFor(" + p + ", " + n + ")", x.kindFor(p, n), best(p, 0, values[0], n));
                due.is("standFor(" + p + ", " + n + ")", x.standFor(p, n), best(p, 1, values[1], n));
                due.is("guiseFor(" + p + ", " + n + ")", x.guiseFor(p, n), best(p, 2, values[2], n));
                due.same("all", Towns.all(x), before);
            }
        }
    }

    private static int best(int p, int what, int values, int n) {
        int best = -1;
        int most = -1;
        for (int v = 0; v < values; v++) {
            BareThursday y = Towns.of(TOWN);
            y.change(p, what, v);
            int joy = y.go(n);
            if (joy > most) {
                most = joy;
                best = v;
            }
        }
        return best;
    }

    private static void beyond(Due due) {
        due.test("promises 16 to 18: beyond");
        BareThursday x = Towns.of("person");
        int[][] wrongs = {{1, 5}, {-1, 5}, {0, 61}, {0, -1}, {Integer.MAX_VALUE, 0}, {0, Integer.MIN_VALUE}};
        for (int[] w : wrongs) {
            due.is("standFor(" + w[0] + ", " + w[1] + ")", x.standFor(w[0], w[1]), Due.BEYOND);
            due.is("guiseFor(" + w[0] + ", " + w[1] + ")", x.guiseFor(w[0], w[1]), Due.BEYOND);
            due.is("kindFor(" + w[0] + ", " + w[1] + ")", x.kindFor(w[0], w[1]), Due.BEYOND);
        }
        due.is("standFor(0, 60)", x.standFor(0, 60), 0);
        due.is("guiseFor(0, 60)", x.guiseFor(0, 60), 0);
        due.is("kindFor(0, 60)", x.kindFor(0, 60), 0);
    }

    private static void dark(Due due) {
        due.test("promise 19: the fewest whose lights to put out, the least of several");
        BareThursday x = Towns.of("person;person;person;met 0 1;met 1 2;met 0 2");
        String before = Towns.all(x);
        due.is("dark(12)", x.dark(12), 3);
        due.is("dark(11)", x.dark(11), 0);
        due.same("all", Towns.all(x), before);
        x = Towns.of("person at 8;person;person;person;met 3 2;met 1 3");
        due.is("dark(12)", x.dark(12), 8);
        x = Towns.of("harp;person at 4;person at 4;met 1 2");
        due.is("dark(12)", x.dark(12), 2);
        due.test("promise 19: who are out already need not be told");
        x = Towns.of("person out;person;person;met 0 1;met 1 2;met 0 2");
        due.is("dark(12)", x.dark(12), 2);
        x = Towns.of("person out;person;met 0 1");
        due.is("dark(12)", x.dark(12), 0);
        due.test("promise 19: whom nothing gladdens may come to know");
        x = Towns.of("harp;harp;met 0 1");
        due.is("dark(24)", x.dark(24), 0);
        x = Towns.of("harp;wet at 8;met 0 1");
        due.is("dark(24)", x.dark(24), 1);
        x.change(1, 4, 1);
        due.is("dark(24)", x.dark(24), 0);
    }

    private static void darkEdges(Due due) {
        due.test("promise 19: 24 days have two of twelve");
        BareThursday x = Towns.of("columbine;harp at 10;met 0 1");
        due.is("dark(23)", x.dark(23), 0);
        due.is("dark(24)", x.dark(24), 1);
        due.is("dark(0)", x.dark(0), 0);
        due.is("dark(25)", x.dark(25), Due.BEYOND);
        due.is("dark(-1)", x.dark(-1), Due.BEYOND);
        due.test("promise 19: all eight but one");
        x = Towns.of("aunt;aunt;aunt;aunt;aunt;aunt;aunt;aunt");
        for (int p = 0; p < 8; p++) {
            x.change(p, 3, 255 & ~(1 << p));
        }
        due.is("dark(12)", x.dark(12), 127);
        due.test("promise 19: joy as now, not none");
        x.go(12);
        due.is("now(1)", x.now(1), 168);
        due.is("dark(24)", x.dark(24), 0);
        due.is("dark(24) of nobody", Towns.of("").dark(24), 0);
    }

    private static void circle(Due due) {
        due.test("promise 20: the most of whom each knows, or met, each other one");
        for (int what = 0; what <= 1; what++) {
            BareThursday x = Towns.of("person;person;person;person;person;person");
            due.is("circle(" + what + ")", x.circle(what), 1);
            pair(x, 3 + what, 4, 5);
            due.is("circle(" + what + ")", x.circle(what), 48);
            pair(x, 3 + what, 0, 3);
            due.is("circle(" + what + ")", x.circle(what), 9);
            pair(x, 3 + what, 1, 5);
            pair(x, 3 + what, 1, 4);
            due.is("circle(" + what + ")", x.circle(what), 50);
            pair(x, 3 + what, 0, 2);
            pair(x, 3 + what, 2, 3);
            due.is("circle(" + what + ")", x.circle(what), 13);
            x.change(0, 3 + what, x.of(0, 3 + what) & ~4);
            due.is("circle(" + what + ")", x.circle(what), 50);
            due.is("circle(" + (1 - what) + ")", x.circle(1 - what), 1);
        }
    }

    private static void pair(BareThursday x, int what, int a, int b) {
        x.change(a, what, x.of(a, what) | 1 << b);
        x.change(b, what, x.of(b, what) | 1 << a);
    }

    private static void circleEdges(Due due) {
        due.test("promise 20: circle beyond, of nobody, of all");
        BareThursday x = new BareThursday();
        due.is("circle(0)", x.circle(0), 0);
        due.is("circle(1)", x.circle(1), 0);
        due.is("circle(2)", x.circle(2), Due.BEYOND);
        due.is("circle(-1)", x.circle(-1), Due.BEYOND);
        for (int p = 0; p < 8; p++) {
            x.person(0, 0);
        }
        for (int p = 0; p < 8; p++) {
            x.change(p, 4, 255 & ~(1 << p));
        }
        due.is("circle(1)", x.circle(1), 255);
        due.is("circle(0)", x.circle(0), 1);
    }
}
