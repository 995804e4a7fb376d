/** Promises 11 to 15: each sentence that names a boundary case. */
final class EdgeFutureTest {
    private EdgeFutureTest() {
    }

    static void all(Due due) {
        aheadRefused(due);
        aheadTaken(due);
        joyRefused(due);
        joyTaken(due);
        whenRefused(due);
        whenNow(due);
        whenMost(due);
        known(due);
        passedRefused(due);
        passedTaken(due);
        changesNothing(due);
    }

    private static void aheadRefused(Due due) {
        Edge.refused(due, "promise 11: a number too small is BEYOND", Due.BEYOND, x -> x.ahead(-1, 1, 1), x -> x.ahead(Edge.MIN, 1, 1));
        Edge.refused(due, "promise 11: a number too large is BEYOND", Due.BEYOND, x -> x.ahead(3, 1, 1), x -> x.ahead(Edge.MAX, 1, 1));
        Edge.refused(due, "promise 11: n too small is BEYOND", Due.BEYOND, x -> x.ahead(0, 1, -1), x -> x.ahead(0, 1, Edge.MIN));
        Edge.refused(due, "promise 11: n too large is BEYOND", Due.BEYOND, x -> x.ahead(0, 1, 101), x -> x.ahead(0, 1, Edge.MAX));
        Edge.refused(due, "promise 11: what 0 is not told ahead", Due.BEYOND, x -> x.ahead(0, 0, 1), x -> x.ahead(0, -1, 1));
        Edge.refused(due, "promise 11: what 5 is not told ahead", Due.BEYOND, x -> x.ahead(1, 5, 1), x -> x.ahead(1, 5, 0));
        Edge.refused(due, "promise 11: what 7 and more are not told ahead", Due.BEYOND, x -> x.ahead(0, 7, 1),
                x -> x.ahead(0, 8, 1), x -> x.ahead(0, 9, 1), x -> x.ahead(0, 10, 1), x -> x.ahead(0, Edge.MAX, 1));
    }

    private static void aheadTaken(Due due) {
        due.test("promise 11: behind 0 DAYS all is as now");
        BareThursday x = Edge.few();
        int[] whats = {1, 2, 3, 4, 6};
        for (int p = 0; p < 3; p++) {
            for (int what : whats) {
                due.is("ahead(" + p + ", " + what + ", 0)", x.ahead(p, what, 0), x.of(p, what));
            }
        }
        due.test("promise 11: behind 100 DAYS, the most, round the ring and the GUISES");
        x = Towns.of("person at 15 as 11;noise");
        due.is("ahead(0, 1, 100)", x.ahead(0, 1, 100), (15 + 100) % 16);
        // Eight of these hundred are THE DAY.
        due.is("ahead(0, 2, 100)", x.ahead(0, 2, 100), (11 + 92) % 12);
        due.is("ahead(1, 1, 100)", x.ahead(1, 1, 100), 300 % 16);
        due.test("promise 11: PASSED ahead is 9999 at most");
        x = Towns.of("harp;harp");
        x.change(0, 6, 9998);
        due.is("ahead(0, 6, 11)", x.ahead(0, 6, 11), 9998);
        due.is("ahead(0, 6, 12)", x.ahead(0, 6, 12), 9999);
        due.is("ahead(0, 6, 100)", x.ahead(0, 6, 100), 9999);
        due.is("ahead(1, 6, 100)", x.ahead(1, 6, 100), 8);
    }

    private static void joyRefused(Due due) {
        Edge.refused(due, "promise 12: n too small is BEYOND", Due.BEYOND, x -> x.joy(-1), x -> x.joy(Edge.MIN));
        Edge.refused(due, "promise 12: n too large is BEYOND", Due.BEYOND, x -> x.joy(101), x -> x.joy(Edge.MAX));
    }

    private static void joyTaken(Due due) {
        due.test("promise 12: behind 0 DAYS JOY is as now");
        BareThursday x = Edge.friends(2, Towns.WET);
        due.is("joy(0)", x.joy(0), 0);
        x.go(12);
        due.is("joy(0)", x.joy(0), 40);
        due.test("promise 12: behind 100 DAYS, the most, and one less");
        // To the harp a columbine comes on the eighth day of all barefaced: 40 are 8 by 16.
        x = Towns.of("columbine;harp at 8;met 0 1;bell 7");
        due.is("joy(88)", x.joy(88), 0);
        due.is("joy(89)", x.joy(89), 9);
        due.is("joy(100)", x.joy(100), 9);
        x = Towns.of("columbine;harp at 8;met 0 1");
        due.is("joy(95)", x.joy(95), 0);
        due.is("joy(96)", x.joy(96), 9);
        due.test("promise 12: with nobody there JOY stays");
        due.is("joy(100)", new BareThursday().joy(100), 0);
    }

    private static void whenRefused(Due due) {
        Edge.refused(due, "promise 13: one and the same is BEYOND", Due.BEYOND,
                x -> x.when(0, 0, 0), x -> x.when(1, 1, 1), x -> x.when(2, 2, 2));
        Edge.refused(due, "promise 13: a number too small is BEYOND", Due.BEYOND,
                x -> x.when(-1, 0, 0), x -> x.when(0, -1, 1), x -> x.when(Edge.MIN, 0, 2));
        Edge.refused(due, "promise 13: a number too large is BEYOND", Due.BEYOND,
                x -> x.when(3, 0, 0), x -> x.when(0, 3, 1), x -> x.when(0, Edge.MAX, 2));
        Edge.refused(due, "promise 13: a what too small is BEYOND", Due.BEYOND,
                x -> x.when(0, 1, -1), x -> x.when(0, 1, Edge.MIN));
        Edge.refused(due, "promise 13: a what too large is BEYOND", Due.BEYOND,
                x -> x.when(0, 1, 3), x -> x.when(0, 1, Edge.MAX));
        Edge.refusedIn(due, "promise 13: what never is so is NONE", () -> Towns.of("harp;harp at 1"), Due.NONE,
                x -> x.when(0, 1, 0), x -> x.when(0, 1, 1), x -> x.when(0, 1, 2), x -> x.when(1, 0, 2));
    }

    private static void whenNow(Due due) {
        due.test("promise 13: what is so now is so behind 0 DAYS");
        BareThursday x = Towns.of("person;person;harp at 9;met 0 1");
        x.change(0, 4, 2);
        x.change(1, 4, 1);
        for (int what = 0; what <= 2; what++) {
            due.is("when(0, 1, " + what + ")", x.when(0, 1, what), 0);
            due.is("when(1, 0, " + what + ")", x.when(1, 0, what), 0);
        }
        due.test("promise 13: both: one alone of the two is not so");
        x = Towns.of("harp;harp");
        x.change(0, 3, 2);
        x.change(0, 4, 2);
        due.is("when(0, 1, 0)", x.when(0, 1, 0), Due.NONE);
        due.is("when(1, 0, 1)", x.when(1, 0, 1), Due.NONE);
        due.test("promise 13: AT one CELL past 15");
        x = Towns.of("person at 15;harp at 0;noise at 3");
        due.is("when(0, 1, 2)", x.when(0, 1, 2), 1);
        due.is("when(0, 2, 2)", x.when(0, 2, 2), 6);
        due.test("promise 13: the fewest DAYS, where it is so again later");
        x = Towns.of("person at 14;harp");
        due.is("when(0, 1, 2)", x.when(0, 1, 2), 2);
    }

    private static void whenMost(Due due) {
        due.test("promise 13: both MET each other behind 200 DAYS, the most");
        // The columbine is at the harp's cell from day 12 to 22, in every guise but 6, then from day 204 on:
        // behind 176 shifts more it is in guise 10, and four more bring it to 6.
        BareThursday x = Towns.of("columbine at 11 as 3;harp as 6;bell 8");
        x.change(1, 3, 1);
        due.is("when(0, 1, 0)", x.when(0, 1, 0), 200);
        due.test("promise 13: behind 201 DAYS is NONE");
        x = Towns.of("columbine at 11 as 10;harp as 6;bell 7");
        x.change(1, 3, 1);
        due.is("when(0, 1, 0)", x.when(0, 1, 0), Due.NONE);
        x.go(1);
        due.is("when(0, 1, 0)", x.when(0, 1, 0), 200);
        due.test("promise 13: both KNOW each other behind 200 DAYS, the most");
        x = lateKnown(4);
        due.is("when(0, 1, 0)", x.when(0, 1, 0), 9);
        due.is("when(0, 1, 1)", x.when(0, 1, 1), 200);
        due.is("when(1, 0, 1)", x.when(1, 0, 1), 200);
        due.test("promise 13: KNOW each other behind 201 DAYS is NONE");
        x = lateKnown(3);
        due.is("when(0, 1, 1)", x.when(0, 1, 1), Due.NONE);
        due.test("promise 13: AT one CELL on the fifteenth of THE DAYS");
        x = Towns.of("columbine;harp at 11");
        due.is("when(0, 1, 2)", x.when(0, 1, 2), 180);
    }

    // On the first of the days barefaced the columbine comes to the harp, which it meets then; on the
    // seventeenth (of number 203) it comes again, and both know each other.
    private static BareThursday lateKnown(int day) {
        BareThursday x = Towns.of("columbine at 11;harp as 9;bell " + day);
        x.change(1, 3, 1);
        return x;
    }

    private static void known(Due due) {
        due.test("promise 14: somebody who KNOWS somebody now: behind 0 DAYS");
        BareThursday x = Towns.of("harp;harp");
        x.change(1, 4, 1);
        due.is("known()", x.known(), 0);
        due.test("promise 14: behind 200 DAYS, the most");
        x = lateKnown(4);
        due.is("known()", x.known(), 200);
        x.go(1);
        due.is("known()", x.known(), 199);
        due.test("promise 14: behind THE DAY");
        due.is("known()", Edge.friends(2, Towns.HARP).known(), 12);
        Edge.refusedIn(due, "promise 14: behind 201 DAYS is NONE", () -> lateKnown(3), Due.NONE, x1 -> x1.known());
        Edge.refusedIn(due, "promise 14: of nobody it is NONE", BareThursday::new, Due.NONE, x1 -> x1.known());
        Edge.refusedIn(due, "promise 14: of one alone it is NONE", () -> Towns.of("wet"), Due.NONE, x1 -> x1.known());
        Edge.refusedIn(due, "promise 14: where all are OUT it is NONE", () -> Towns.of("wet out;wet out;met 0 1"), Due.NONE,
                x1 -> x1.known());
    }

    private static void passedRefused(Due due) {
        Edge.refused(due, "promise 15: a number too small is BEYOND", Due.BEYOND, x -> x.passed(-1, 0), x -> x.passed(Edge.MIN, 0));
        Edge.refused(due, "promise 15: a number too large is BEYOND", Due.BEYOND, x -> x.passed(3, 0), x -> x.passed(Edge.MAX, 0));
        Edge.refused(due, "promise 15: v too small is BEYOND", Due.BEYOND, x -> x.passed(0, -1), x -> x.passed(0, Edge.MIN));
        Edge.refused(due, "promise 15: v too large is BEYOND", Due.BEYOND, x -> x.passed(0, 10000), x -> x.passed(0, Edge.MAX));
        Edge.refusedIn(due, "promise 15: behind 201 DAYS is NONE", () -> Towns.of("harp;harp;bell 3"), Due.NONE,
                x -> x.passed(0, 17), x -> x.passed(1, 9999));
        Edge.refusedIn(due, "promise 15: one whom nobody goes by is NONE", () -> Towns.of("harp"), Due.NONE,
                x -> x.passed(0, 1), x -> x.passed(0, 9999));
    }

    private static void passedTaken(Due due) {
        due.test("promise 15: 0 or more is so behind 0 DAYS");
        BareThursday x = Towns.of("harp;harp");
        due.is("passed(0, 0)", x.passed(0, 0), 0);
        due.test("promise 15: as much as now, and less, is so behind 0 DAYS");
        x.change(0, 6, 9999);
        due.is("passed(0, 9999)", x.passed(0, 9999), 0);
        due.is("passed(0, 9998)", x.passed(0, 9998), 0);
        due.is("passed(0, 0)", x.passed(0, 0), 0);
        due.test("promise 15: 9999 is still reached");
        x.change(0, 6, 9998);
        due.is("passed(0, 9999)", x.passed(0, 9999), 12);
        due.test("promise 15: behind 200 DAYS, the most");
        x = Towns.of("harp;harp;bell 4");
        due.is("passed(0, 17)", x.passed(0, 17), 200);
        due.is("passed(0, 16)", x.passed(0, 16), 188);
        due.is("passed(0, 1)", x.passed(0, 1), 8);
    }

    private static void changesNothing(Due due) {
        due.test("promises 11 to 15: nothing changes by what is told of what will be");
        BareThursday x = Edge.few();
        BareThursday untouched = Edge.few();
        x.ahead(0, 1, 100);
        x.joy(100);
        x.when(0, 2, 2);
        x.known();
        x.passed(2, 0);
        due.is("status(-1)", x.status(-1), untouched.status(-1));
        due.same("all", Edge.seen(x), Edge.seen(untouched));
    }
}
