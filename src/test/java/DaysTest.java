/** Promises 9 and 10, and how a day goes by (term 2). */
final class DaysTest {
    private DaysTest() {
    }

    static void all(Due due) {
        walking(due);
        barefaced(due);
        meeting(due);
        meetingOrder(due);
        seeing(due);
        knowing(due);
        knowingOrder(due);
        goEdges(due);
        farDays(due);
        muchJoy(due);
        now(due);
    }

    private static void walking(Due due) {
        due.test("promise 9: all walk round the ring, and shift round the guises, by the day");
        BareThursday x = Towns.of("person at 15 as 11;noise at 15 as 11;aunt at 15 as 11;lady at 15 as 11;"
                + "columbine at 15 as 11;harp at 15 as 11");
        due.is("go(1)", x.go(1), 0);
        traits(due, x, 1, 0, 2, 15, 0, 15, 15);
        traits(due, x, 2, 0, 1, 11, 0, 4, 11);
        due.is("go(1)", x.go(1), 0);
        traits(due, x, 1, 1, 5, 0, 2, 15, 15);
        traits(due, x, 2, 1, 3, 11, 0, 9, 11);
        due.is("go(2)", x.go(2), 0);
        traits(due, x, 1, 3, 11, 1, 5, 15, 15);
        traits(due, x, 2, 3, 7, 11, 1, 7, 11);
        x = Towns.of("wet at 15 as 11");
        x.go(1);
        traits(due, x, 1, 1);
        traits(due, x, 2, 1);
        due.is("now(0)", x.now(0), 1);
    }

    private static void traits(Due due, BareThursday x, int what, int... wants) {
        for (int p = 0; p < wants.length; p++) {
            due.is("day " + x.now(0) + ", of(" + p + ", " + what + ")", x.of(p, what), wants[p]);
        }
    }

    private static void barefaced(Due due) {
        due.test("promise 9: on the day all walk, nobody shifts, nobody meets");
        BareThursday x = Towns.of("person at 1 as 3;noise at 15;columbine at 13;lady as 5;wet;bell 11");
        due.is("go(1)", x.go(1), 0);
        traits(due, x, 1, 2, 2, 2, 2, 2);
        traits(due, x, 2, 3, 0, 0, 5, 0);
        traits(due, x, 3, 0, 0, 0, 0, 0);
        due.is("now(0)", x.now(0), 12);
        due.test("promise 9: the day comes again after twelve");
        x = Towns.of("person;person;met 0 1");
        due.is("go(11)", x.go(11), 0);
        due.is("go(1)", x.go(1), 2);
        due.is("now(3)", x.now(3), 1);
        x.change(0, 4, 0);
        due.is("go(11)", x.go(11), 2);
        due.is("go(1)", x.go(1), 3);
    }

    private static void meeting(Due due) {
        due.test("promise 9: one meets whose guise it minds, as it is after shifting");
        // The person comes into guise 1 and does not mind its own.
        BareThursday x = Towns.of("person at 15;harp as 1;harp;harp at 1");
        x.go(1);
        traits(due, x, 3, 4, 0, 0, 0);
        due.test("promise 9: they meet where they come to, not where they were");
        x = Towns.of("person at 3;harp at 3;harp at 4");
        x.go(1);
        traits(due, x, 3, 4, 0, 0);
        due.test("promise 9: whom one met it has met from then on");
        x.go(1);
        traits(due, x, 3, 4, 0, 0);
        due.test("promise 9: a light that is out hinders no meeting");
        x = Towns.of("noise out;noise out");
        x.go(1);
        traits(due, x, 3, 2, 1);
    }

    private static void meetingOrder(Due due) {
        due.test("promise 9: a columbine meets the one of the least number, and who is in guise 9");
        BareThursday x = Towns.of("columbine;harp as 2;harp as 3;harp as 9;harp as 4");
        x.go(1);
        due.is("of(0, 3)", x.of(0, 3), 2 | 8);
        x = Towns.of("harp as 6;harp as 3;columbine;harp as 3;harp as 9");
        x.go(1);
        due.is("of(2, 3)", x.of(2, 3), 2 | 16);
        due.test("promise 9: of a pair the first one meets first, then the other one the first");
        x = Towns.of("columbine;columbine");
        x.go(1);
        traits(due, x, 3, 2, 1);
        x = Towns.of("noise;columbine at 3 as 5;noise as 1");
        x.go(1);
        traits(due, x, 3, 6, 1, 3);
    }

    private static void seeing(Due due) {
        due.test("promise 9: on the day two go by unknown who have not both met");
        BareThursday x = Towns.of("person;person;bell 11");
        x.change(0, 3, 2);
        due.is("go(1)", x.go(1), 0);
        traits(due, x, 6, 1, 1);
        traits(due, x, 4, 0, 0);
        due.test("promise 9: nobody sees who is out, or too far");
        x = Towns.of("person;person out;person at 1;person at 3;aunt at 2;bell 11");
        due.is("go(1)", x.go(1), 0);
        traits(due, x, 6, 1, 0, 2, 1, 2);
        due.test("promise 9: the lesser of what both shine counts, where they have come to");
        x = Towns.of("columbine;aunt at 6;person at 5;noise at 2;bell 11");
        due.is("go(1)", x.go(1), 0);
        traits(due, x, 6, 3, 2, 2, 1);
        due.test("promise 9: passed is 9999 at most");
        x = Towns.of("person;person;person;bell 11");
        x.change(0, 6, 9998);
        x.change(1, 6, 9999);
        x.go(1);
        traits(due, x, 6, 9999, 9999, 2);
        due.test("promise 9: who know each other neither pass nor gladden again");
        x = Towns.of("wet;wet;met 0 1;bell 11");
        due.is("go(1)", x.go(1), 40);
        due.is("go(12)", x.go(12), 40);
        traits(due, x, 6, 0, 0);
        due.test("promise 9: who know each other, but have not both met, pass");
        x.change(0, 3, 0);
        due.is("go(12)", x.go(12), 40);
        traits(due, x, 6, 1, 1);
        traits(due, x, 4, 2, 1);
    }

    private static void knowing(Due due) {
        due.test("promise 9: joy by what each gladdens");
        int[] each = {1, 1, 3, 3, 9, 0, 20};
        for (int kind = 0; kind < 7; kind++) {
            BareThursday x = new BareThursday();
            x.person(kind, 3);
            x.person(kind, 3);
            x.change(0, 3, 2);
            x.change(1, 3, 1);
            Towns.read(x, "bell 11");
            due.is("kind " + kind + ", go(1)", x.go(1), 2 * each[kind]);
            traits(due, x, 4, 2, 1);
        }
        due.test("promise 9: one who knew already is not gladdened, the other one is");
        BareThursday x = Towns.of("person;aunt;met 0 1;bell 11");
        x.change(1, 4, 1);
        due.is("go(1)", x.go(1), 1);
        traits(due, x, 4, 2, 1);
    }

    private static void knowingOrder(Due due) {
        due.test("promise 9: by whom it knew ahead of that");
        BareThursday x = Towns.of("columbine;columbine;columbine;met 0 1;met 1 2;met 0 2;bell 11");
        due.is("go(1)", x.go(1), 9 + 9 + 12 + 9 + 12 + 12);
        x = Towns.of("lady;lady;harp at 9;harp at 9;met 0 1;bell 11");
        x.change(0, 4, 12);
        due.is("go(1)", x.go(1), 5 + 3);
    }

    private static void goEdges(Due due) {
        due.test("promise 9: go beyond");
        BareThursday x = Towns.of("noise;noise");
        due.is("go(0)", x.go(0), Due.BEYOND);
        due.is("go(61)", x.go(61), Due.BEYOND);
        due.is("go(-1)", x.go(-1), Due.BEYOND);
        due.is("go(min)", x.go(Integer.MIN_VALUE), Due.BEYOND);
        due.is("go(max)", x.go(Integer.MAX_VALUE), Due.BEYOND);
        due.is("now(0)", x.now(0), 0);
        due.is("go(60)", x.go(60), 2);
        due.is("now(0)", x.now(0), 60);
    }

    // Within 512 calls no DAY comes near 99999; the class answers later calls likewise, so this can be seen.
    private static void farDays(Due due) {
        due.test("promises 9, 23, 28: no day is above 99999");
        BareThursday x = Towns.of("person;lady;noise");
        for (int i = 0; i < 1666; i++) {
            x.go(60);
        }
        due.is("now(0)", x.now(0), 99960);
        due.is("go(40)", x.go(40), Due.STATE);
        due.is("night(20)", x.night(20) >= 0 ? 1 : 0, 1);
        due.is("night(20)", x.night(20), Due.STATE);
        due.is("go(18)", x.go(18) >= 0 ? 1 : 0, 1);
        String before = Towns.all(x);
        due.is("go(2)", x.go(2), Due.STATE);
        due.is("night(2)", x.night(2), Due.STATE);
        due.is("go(0)", x.go(0), Due.BEYOND);
        due.same("all", Towns.all(x), before);
        due.is("go(1)", x.go(1) >= 0 ? 1 : 0, 1);
        due.is("now(0)", x.now(0), 99999);
        due.is("go(1)", x.go(1), Due.STATE);
        due.is("status(4)", x.status(4), 5);
        due.is("night(1)", x.night(1), Due.STATE);
        // DAY stays 99999 then: odd, a multiple of 3, and ordinary.
        int lady = x.of(1, 1);
        due.is("ahead(1, 1, 3)", x.ahead(1, 1, 3), (lady + 6) % 16);
        due.is("joy(100)", x.joy(100), x.now(1));
        due.is("bell 11", Towns.read(x, "bell 11"), 1);
        due.is("now(0)", x.now(0), 99999);
    }

    // Within 512 calls JOY does not come near 99999 either.
    private static void muchJoy(Due due) {
        due.test("promise 9: joy is 99999 at most");
        BareThursday x = Towns.of("wet;wet;wet;wet;wet;wet;wet;wet");
        for (int p = 0; p < 8; p++) {
            x.change(p, 3, 255 & ~(1 << p));
        }
        int joy = 0;
        for (int i = 0; i < 90; i++) {
            for (int p = 0; p < 8; p++) {
                x.change(p, 4, 0);
            }
            joy = Math.min(99999, joy + 8 * 7 * 20);
            due.is("joy(12)", x.joy(12), joy);
            due.is("go(12)", x.go(12), joy);
        }
        due.is("now(1)", x.now(1), 99999);
        x.change(0, 4, 0);
        due.test("promises 16, 19: no joy above 99999");
        due.is("dark(12)", x.dark(12), 0);
        due.is("standFor(0, 12)", x.standFor(0, 12), 0);
    }

    private static void now(Due due) {
        due.test("promise 10: now tells each");
        BareThursday x = Towns.of("wet as 3;wet as 3;harp at 9 as 11;noise at 5;met 0 1;met 0 2;bell 11");
        x.go(1);
        x.change(3, 4, 1);
        x.change(2, 6, 10);
        x.change(3, 3, 1);
        int[] wants = {12, 40, 11, 1, 2, 8 | 2048 | 1, 10, 0};
        for (int what = 0; what < wants.length; what++) {
            due.is("now(" + what + ")", x.now(what), wants[what]);
        }
        x.change(1, 6, 9);
        due.is("now(6)", x.now(6), 19);
        x.change(0, 2, 5);
        due.is("now(5)", x.now(5), 8 | 32 | 2048 | 1);
        due.test("promise 10: whether it is the day");
        x = new BareThursday();
        for (int day = 0; day < 36; day++) {
            due.is("day " + day + ", now(7)", x.now(7), day == 11 || day == 23 || day == 35 ? 1 : 0);
            x.go(1);
        }
        due.test("promise 10: now beyond");
        due.is("now(8)", x.now(8), Due.BEYOND);
        due.is("now(-1)", x.now(-1), Due.BEYOND);
    }
}
