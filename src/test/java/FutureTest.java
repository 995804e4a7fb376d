/** Promises 11 to 15: what will be. */
final class FutureTest {
    private static final String TOWN = "person as 3;noise at 4;aunt at 9 as 2;lady at 5;columbine at 3 as 9;"
            + "wet at 2 as 1;met 0 4;met 4 2;met 5 1";
    // Both have met behind 393 days, and both know behind 401.
    private static final String LATE = "aunt at 1 as 8;columbine at 1 as 8;bell 7";

    private FutureTest() {
    }

    static void all(Due due) {
        ahead(due);
        aheadBeyond(due);
        joy(due);
        when(due);
        whenLate(due);
        whenBeyond(due);
        known(due);
        passed(due);
    }

    private static void ahead(Due due) {
        due.test("promises 11, 12: ahead and joy tell what days then bring");
        BareThursday x = Towns.of(TOWN);
        BareThursday y = Towns.of(TOWN);
        String before = Towns.all(x);
        int[] whats = {1, 2, 3, 4, 6};
        for (int n = 0; n <= 100; n++) {
            for (int p = 0; p < 6; p++) {
                int what = whats[(n + p) % 5];
                due.is("ahead(" + p + ", " + what + ", " + n + ")", x.ahead(p, what, n), y.of(p, what));
            }
            due.is("joy(" + n + ")", x.joy(n), y.now(1));
            y.go(1);
        }
        due.is("joy(100) is some", x.joy(100) > 0 ? 1 : 0, 1);
        due.same("all", Towns.all(x), before);

        due.test("promise 11: ahead, by hand");
        x = Towns.of("person at 4 as 3;harp at 5;harp at 7;bell 9");
        due.is("ahead(0, 1, 4)", x.ahead(0, 1, 4), 8);
        due.is("ahead(0, 2, 4)", x.ahead(0, 2, 4), 6);
        due.is("ahead(0, 3, 0)", x.ahead(0, 3, 0), 0);
        due.is("ahead(0, 3, 1)", x.ahead(0, 3, 1), 2);
        due.is("ahead(0, 4, 100)", x.ahead(0, 4, 100), 0);
        // On the days the person is at 7, 3, 15, 11, and so on.
        due.is("ahead(1, 6, 100)", x.ahead(1, 6, 100), 0);
        due.is("ahead(2, 6, 99)", x.ahead(2, 6, 99), 3);
        due.is("ahead(2, 6, 98)", x.ahead(2, 6, 98), 2);
    }

    private static void aheadBeyond(Due due) {
        due.test("promise 11: ahead beyond");
        BareThursday x = Towns.of("person");
        int[] others = {-1, 0, 5, 7, 8, 9, 10, 11};
        for (int what : others) {
            due.is("ahead(0, " + what + ", 1)", x.ahead(0, what, 1), Due.BEYOND);
        }
        due.is("ahead(0, 1, 101)", x.ahead(0, 1, 101), Due.BEYOND);
        due.is("ahead(0, 1, -1)", x.ahead(0, 1, -1), Due.BEYOND);
        due.is("ahead(1, 1, 1)", x.ahead(1, 1, 1), Due.BEYOND);
        due.is("ahead(-1, 1, 1)", x.ahead(-1, 1, 1), Due.BEYOND);
        due.is("ahead(0, 1, 100)", x.ahead(0, 1, 100), 100 % 16);
    }

    private static void joy(Due due) {
        due.test("promise 12: joy, by hand, and beyond");
        BareThursday x = Towns.of("aunt at 13;wet;met 0 1;bell 3");
        // To the day and on it the aunt walks five on (3, 5, 7, 9, 11), the wet eighteen.
        due.is("joy(8)", x.joy(8), 0);
        due.is("joy(9)", x.joy(9), 23);
        due.is("joy(0)", x.joy(0), 0);
        due.is("joy(101)", x.joy(101), Due.BEYOND);
        due.is("joy(-1)", x.joy(-1), Due.BEYOND);
        due.is("now(0)", x.now(0), 3);
    }

    private static void when(Due due) {
        due.test("promise 13: when both met, both know, both are at one cell");
        BareThursday x = Towns.of("person as 1;person at 0;harp at 4;harp at 9");
        due.is("when(0, 1, 0)", x.when(0, 1, 0), 1);
        due.is("when(1, 0, 0)", x.when(1, 0, 0), 1);
        due.is("when(0, 1, 1)", x.when(0, 1, 1), 12);
        due.is("when(0, 1, 2)", x.when(0, 1, 2), 0);
        due.is("when(0, 2, 2)", x.when(0, 2, 2), 4);
        due.is("when(0, 2, 0)", x.when(0, 2, 0), Due.NONE);
        due.is("when(0, 2, 1)", x.when(0, 2, 1), Due.NONE);
        due.is("when(2, 3, 2)", x.when(2, 3, 2), Due.NONE);
        due.is("now(0)", x.now(0), 0);
        x.go(12);
        due.is("when(0, 1, 0)", x.when(0, 1, 0), 0);
        due.is("when(0, 1, 1)", x.when(0, 1, 1), 0);
    }

    private static void whenLate(Due due) {
        due.test("promises 13, 14: 200 days, and no more");
        BareThursday x = Towns.of(LATE);
        x.go(60);
        x.go(60);
        x.go(60);
        x.go(12);
        due.is("when(0, 1, 0)", x.when(0, 1, 0), Due.NONE);
        x.go(1);
        due.is("when(0, 1, 0)", x.when(0, 1, 0), 200);
        due.is("when(1, 0, 0)", x.when(1, 0, 0), 200);
        x.go(7);
        due.is("when(0, 1, 1)", x.when(0, 1, 1), Due.NONE);
        due.is("known()", x.known(), Due.NONE);
        x.go(1);
        due.is("when(0, 1, 1)", x.when(0, 1, 1), 200);
        due.is("known()", x.known(), 200);
    }

    private static void whenBeyond(Due due) {
        due.test("promise 13: when beyond");
        BareThursday x = Towns.of("person;person");
        due.is("when(0, 0, 2)", x.when(0, 0, 2), Due.BEYOND);
        due.is("when(0, 2, 2)", x.when(0, 2, 2), Due.BEYOND);
        due.is("when(2, 0, 2)", x.when(2, 0, 2), Due.BEYOND);
        due.is("when(-1, 0, 2)", x.when(-1, 0, 2), Due.BEYOND);
        due.is("when(0, 1, 3)", x.when(0, 1, 3), Due.BEYOND);
        due.is("when(0, 1, -1)", x.when(0, 1, -1), Due.BEYOND);
    }

    private static void known(Due due) {
        due.test("promise 14: behind how many days somebody knows somebody");
        due.is("known() of nobody", Towns.of("").known(), Due.NONE);
        due.is("known() of harps", Towns.of("harp;harp").known(), Due.NONE);
        due.is("known()", Towns.of("person;person;met 0 1;bell 11").known(), 1);
        due.is("known()", Towns.of("person;person;met 0 1").known(), 12);
        BareThursday x = Towns.of("harp;harp;harp");
        x.change(2, 4, 1);
        due.is("known()", x.known(), 0);
        due.is("now(0)", x.now(0), 0);
    }

    private static void passed(Due due) {
        due.test("promise 15: behind how many days passed is so many or more");
        BareThursday x = Towns.of("harp;harp;harp at 1;bell 4");
        due.is("passed(0, 0)", x.passed(0, 0), 0);
        due.is("passed(0, 1)", x.passed(0, 1), 8);
        due.is("passed(1, 17)", x.passed(1, 17), 200);
        due.is("passed(1, 18)", x.passed(1, 18), Due.NONE);
        due.is("passed(2, 1)", x.passed(2, 1), Due.NONE);
        x.go(1);
        due.is("passed(0, 17)", x.passed(0, 17), 199);
        x.change(0, 6, 9983);
        due.is("passed(0, 9983)", x.passed(0, 9983), 0);
        due.is("passed(0, 9999)", x.passed(0, 9999), 187);
        due.is("passed(0, 5)", x.passed(0, 5), 0);
        x = Towns.of("harp;harp;bell 3");
        due.is("passed(0, 17)", x.passed(0, 17), Due.NONE);
        due.test("promise 15: two at once may leave one out");
        x = Towns.of("harp;harp;harp");
        due.is("passed(1, 1)", x.passed(1, 1), 12);
        due.is("passed(1, 2)", x.passed(1, 2), 12);
        due.is("passed(1, 3)", x.passed(1, 3), 24);
        due.test("promise 15: passed beyond");
        due.is("passed(3, 1)", x.passed(3, 1), Due.BEYOND);
        due.is("passed(-1, 1)", x.passed(-1, 1), Due.BEYOND);
        due.is("passed(0, -1)", x.passed(0, -1), Due.BEYOND);
        due.is("passed(0, 10000)", x.passed(0, 10000), Due.BEYOND);
        due.is("passed(0, 9999)", x.passed(0, 9999), Due.NONE);
    }
}
