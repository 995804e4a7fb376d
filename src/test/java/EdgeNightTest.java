/** Promises 23 to 25, and DRAWS: each sentence that names a boundary case. */
final class EdgeNightTest {
    private EdgeNightTest() {
    }

    static void all(Due due) {
        nightRefused(due);
        nightTaken(due);
        draws(due);
        oddsRefused(due);
        oddsEdges(due);
        oddsNow(due);
        seed(due);
    }

    private static void nightRefused(Due due) {
        Edge.refused(due, "promise 23: n too small is BEYOND", Due.BEYOND, x -> x.night(0), x -> x.night(-1), x -> x.night(Edge.MIN));
        Edge.refused(due, "promise 23: n too large is BEYOND", Due.BEYOND, x -> x.night(21), x -> x.night(Edge.MAX));
        Edge.refusedIn(due, "promise 23: a DAY above 99999 is STATE", () -> Edge.old(5), Due.STATE,
                x -> x.night(6), x -> x.night(20));
        Edge.refusedIn(due, "promise 23: behind the last DAY of all, any n is STATE", () -> Edge.old(0), Due.STATE,
                x -> x.night(1), x -> x.night(20));
        Edge.refusedIn(due, "promise 23: BEYOND is asked ahead of STATE", () -> Edge.old(0), Due.BEYOND,
                x -> x.night(0), x -> x.night(21));
        due.test("promise 23: DAY 99999 is still reached");
        BareThursday x = Edge.old(5);
        due.is("night(5)", x.night(5), 0);
        due.is("now(0)", x.now(0), 99999);
    }

    private static void nightTaken(Due due) {
        due.test("promise 23: the least and the most n: so many DAYS go by");
        BareThursday x = Towns.of("harp");
        due.is("night(1)", x.night(1), 0);
        due.is("now(0)", x.now(0), 1);
        due.is("night(20)", x.night(20), 0);
        due.is("now(0)", x.now(0), 21);
        due.test("promise 23: with nobody there, three draws and a DAY");
        x = new BareThursday();
        due.is("night(1)", x.night(1), 0);
        due.is("now(0)", x.now(0), 1);
        due.is("count(6)", x.count(6), 662824084);
        due.test("promise 23: if there is no such one, nobody is moved");
        // The first draw's rest by 8 is 6.
        x = Towns.of("harp at 9 as 3;harp at 9 as 3;harp at 9 as 3;harp at 9 as 3;harp at 9 as 3;harp at 9 as 3");
        x.night(1);
        for (int p = 0; p < 6; p++) {
            due.is("of(" + p + ", 1)", x.of(p, 1), 9);
            due.is("of(" + p + ", 2)", x.of(p, 2), 3);
        }
        due.is("count(6)", x.count(6), 662824084);
        due.test("promise 23: the last one there is moved, if it is the one");
        x = Edge.many();
        x.change(6, 0, Towns.HARP);
        x.night(1);
        due.is("of(6, 1)", x.of(6, 1), 9862832 % 16);
        due.is("of(6, 2)", x.of(6, 2), 2589156 % 12);
        due.test("promise 23: JOY then");
        // On the day six friends at one cell come to know each other, but for the one who is moved.
        x = Edge.friends(6, Towns.WET);
        Towns.read(x, "bell 11");
        due.is("night(1)", x.night(1), 6 * 5 * 20);
    }

    private static void draws(Due due) {
        due.test("promise 23: z wraps as an int, and what is drawn is 0 or more");
        int[] seeds = {Edge.MIN, Edge.MAX, -1, 0};
        for (int seed : seeds) {
            BareThursday x = new BareThursday();
            for (int p = 0; p < 8; p++) {
                x.person(Towns.HARP, 3);
            }
            x.seed(seed);
            x.night(1);
            int first = next(seed);
            int second = next(first);
            int third = next(second);
            int person = place(first, 8);
            for (int p = 0; p < 8; p++) {
                due.is("seed " + seed + ", of(" + p + ", 1)", x.of(p, 1), p == person ? place(second, 16) : 3);
                due.is("seed " + seed + ", of(" + p + ", 2)", x.of(p, 2), p == person ? place(third, 12) : 0);
            }
            due.is("count(6)", x.count(6), third);
        }
        due.test("promise 23: what a draw of 0 gives is 0");
        // From this z the first draw makes 0: number 0 is the one.
        int before = -12345 * inverse(1103515245);
        BareThursday x = Towns.of("harp at 9");
        x.seed(before);
        x.night(1);
        due.is("of(0, 1)", x.of(0, 1), (12345 >>> 8) % 16);
        due.is("of(0, 2)", x.of(0, 2), place(next(12345), 12));
    }

    private static int next(int z) {
        return (int) ((z * 1103515245L + 12345L) & 0xFFFFFFFFL);
    }

    private static int place(int z, int size) {
        return (int) (((z & 0xFFFFFFFFL) / 256) % size);
    }

    private static int inverse(int odd) {
        int inverse = odd;
        for (int i = 0; i < 5; i++) {
            inverse *= 2 - odd * inverse;
        }
        return inverse;
    }

    private static void oddsRefused(Due due) {
        Edge.refused(due, "promise 24: a number too small is BEYOND, in longs, too", Due.BEYOND,
                x -> x.odds(-1, 1, 0), x -> x.odds(Edge.MIN, 1, 1));
        Edge.refused(due, "promise 24: a number too large is BEYOND", Due.BEYOND,
                x -> x.odds(3, 1, 0), x -> x.odds(Edge.MAX, 1, 1));
        Edge.refused(due, "promise 24: n too small is BEYOND", Due.BEYOND, x -> x.odds(0, -1, 0), x -> x.odds(0, Edge.MIN, 1));
        Edge.refused(due, "promise 24: n too large is BEYOND", Due.BEYOND, x -> x.odds(0, 18, 0), x -> x.odds(0, Edge.MAX, 1));
        Edge.refused(due, "promise 24: a what too small is BEYOND", Due.BEYOND, x -> x.odds(0, 1, -1), x -> x.odds(0, 1, Edge.MIN));
        Edge.refused(due, "promise 24: a what too large is BEYOND", Due.BEYOND, x -> x.odds(0, 1, 2), x -> x.odds(0, 1, Edge.MAX));
    }

    private static void odds(Due due, BareThursday x, int n, long above, long below) {
        due.is("odds(0, " + n + ", 0)", x.odds(0, n, 0), above);
        due.is("odds(0, " + n + ", 1)", x.odds(0, n, 1), below);
    }

    private static void oddsEdges(Due due) {
        due.test("promise 24: of no GUISES all are minded: 1 of 1, by each KIND");
        String[] kinds = {"person", "noise", "aunt", "lady", "columbine", "harp", "wet"};
        for (String kind : kinds) {
            odds(due, Towns.of(kind), 0, 1, 1);
        }
        due.test("promise 24: none is minded: 0 of 1");
        odds(due, Towns.of("harp"), 1, 0, 1);
        odds(due, Towns.of("harp"), 17, 0, 1);
        due.test("promise 24: all are minded: 1 of 1");
        odds(due, Towns.of("noise"), 1, 1, 1);
        odds(due, Towns.of("noise"), 17, 1, 1);
        due.test("promise 24: 17 GUISES, the most, of which 11 by 12 are minded");
        odds(due, Towns.of("person"), 1, 11, 12);
        odds(due, Towns.of("person"), 17, 505447028499293771L, 2218611106740436992L);
        due.test("promise 24: in lowest terms");
        odds(due, Towns.of("aunt"), 1, 1, 2);
        odds(due, Towns.of("wet"), 17, 1, 131072);
        odds(due, Towns.of("columbine as 8"), 1, 2, 3);
        odds(due, Towns.of("columbine as 8"), 17, 131072, 129140163);
        odds(due, Towns.of("lady as 8"), 17, 232630513987207L, 2218611106740436992L);
        odds(due, Towns.of("columbine;harp;met 0 1"), 17, 1, 2218611106740436992L);
    }

    private static void oddsNow(Due due) {
        due.test("promise 24: of what one MINDS now, whatever the DAY is, nothing is drawn");
        BareThursday x = Towns.of("columbine as 3;bell 11");
        odds(due, x, 1, 7, 12);
        x.change(0, 2, 9);
        odds(due, x, 1, 7, 12);
        x.change(0, 2, 10);
        odds(due, x, 1, 2, 3);
        due.is("count(6)", x.count(6), 1);
        due.is("status(-1)", x.status(-1), 0);
    }

    private static void seed(Due due) {
        due.test("promise 25: any int: the least, the most, 0, -1");
        BareThursday x = new BareThursday();
        due.is("seed(min)", x.seed(Edge.MIN), 1);
        due.is("seed(max)", x.seed(Edge.MAX), Edge.MIN);
        due.is("seed(0)", x.seed(0), Edge.MAX);
        due.is("seed(-1)", x.seed(-1), 0);
        due.is("count(6)", x.count(6), -1);
        due.test("promise 25: what seed and count(6) tell is no finding, even if it is as one");
        x = new BareThursday();
        for (int finding = Due.BEYOND; finding >= Due.SIZE; finding--) {
            x.seed(finding);
            due.is("count(6)", x.count(6), finding);
            due.is("seed()", x.seed(1), finding);
        }
        for (int which = -1; which <= 6; which++) {
            due.is("status(" + which + ")", x.status(which), 0);
        }
    }
}
