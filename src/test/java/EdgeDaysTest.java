/** Promises 9 and 10, and how a DAY goes by (terms 1 and 2): each sentence that names a boundary case. */
final class EdgeDaysTest {
    private EdgeDaysTest() {
    }

    static void all(Due due) {
        goRefused(due);
        goTaken(due);
        goRing(due);
        goGuises(due);
        goTheDay(due);
        goMet(due);
        goOrder(due);
        goMinds(due);
        goSees(due);
        goKnows(due);
        goGladdens(due);
        goPassed(due);
        goDayLimit(due);
        goJoyLimit(due);
        nowRefused(due);
        nowEmpty(due);
        nowFull(due);
        nowTheDay(due);
    }

    private static void traits(Due due, BareThursday x, int what, int... wants) {
        for (int p = 0; p < wants.length; p++) {
            due.is("of(" + p + ", " + what + ")", x.of(p, what), wants[p]);
        }
    }

    private static void goRefused(Due due) {
        Edge.refused(due, "promise 9: n too small is BEYOND", Due.BEYOND, x -> x.go(0), x -> x.go(-1), x -> x.go(Edge.MIN));
        Edge.refused(due, "promise 9: n too large is BEYOND", Due.BEYOND, x -> x.go(61), x -> x.go(Edge.MAX));
        Edge.refusedIn(due, "promise 9: a DAY above 99999 is STATE", () -> Edge.old(5), Due.STATE,
                x -> x.go(6), x -> x.go(60));
        Edge.refusedIn(due, "promise 9: behind the last DAY of all, any n is STATE", () -> Edge.old(0), Due.STATE,
                x -> x.go(1), x -> x.go(60));
        Edge.refusedIn(due, "promise 9: BEYOND is asked ahead of STATE", () -> Edge.old(0), Due.BEYOND,
                x -> x.go(0), x -> x.go(61), x -> x.go(-1), x -> x.go(Edge.MAX));
    }

    private static void goTaken(Due due) {
        due.test("promise 9: the least and the most n");
        BareThursday x = Towns.of("harp");
        due.is("go(1)", x.go(1), 0);
        due.is("now(0)", x.now(0), 1);
        due.is("go(60)", x.go(60), 0);
        due.is("now(0)", x.now(0), 61);
        due.test("promise 9: DAYS go by with nobody there");
        x = new BareThursday();
        due.is("go(60)", x.go(60), 0);
        due.is("now(0)", x.now(0), 60);
        due.test("promise 9: one alone meets, knows and passes nobody");
        x = Towns.of("noise");
        due.is("go(60)", x.go(60), 0);
        traits(due, x, 3, 0);
        traits(due, x, 4, 0);
        traits(due, x, 6, 0);
        due.test("promise 9: DAY 99999 is still reached");
        x = Edge.old(5);
        due.is("now(0)", x.now(0), 99994);
        due.is("go(5)", x.go(5), 0);
        due.is("now(0)", x.now(0), 99999);
    }

    private static void goRing(Due due) {
        due.test("promise 9: next to CELL 15 is 0: a PERSON, a NOISE, a WET");
        BareThursday x = Towns.of("person at 15;noise at 13;noise at 15;wet at 14;wet at 15");
        x.go(1);
        traits(due, x, 1, 0, 0, 2, 0, 1);
        due.test("promise 9: next to CELL 15 is 0: an AUNT on an odd DAY, a LADY on each");
        x = Towns.of("aunt at 15;lady at 14;bell 1");
        x.go(1);
        traits(due, x, 1, 0, 0);
        x = Towns.of("aunt at 15;lady at 15");
        x.go(1);
        traits(due, x, 1, 15, 0);
        due.test("promise 9: next to CELL 15 is 0: a COLUMBINE on THE DAY");
        x = Towns.of("columbine at 11;columbine at 10;columbine at 15;bell 11");
        x.go(1);
        traits(due, x, 1, 0, 15, 4);
        due.test("promise 9: a HARP stays at CELL 15");
        x = Towns.of("harp at 15");
        x.go(60);
        traits(due, x, 1, 15);
    }

    private static void goGuises(Due due) {
        due.test("promise 9: next to GUISE 11 is 0: a PERSON, a NOISE, a WET");
        BareThursday x = Towns.of("person as 11;noise as 10;noise as 11;wet as 10;wet as 11;bell 1");
        x.go(1);
        traits(due, x, 2, 0, 0, 1, 0, 1);
        due.test("promise 9: next to GUISE 11 is 0: a LADY on a DAY that is a multiple of 3");
        x = Towns.of("lady as 11;bell 9");
        x.go(1);
        traits(due, x, 2, 0);
        x.go(1);
        traits(due, x, 2, 0);
        due.test("promise 9: next to GUISE 11 is 0: a COLUMBINE");
        x = Towns.of("columbine as 7;columbine as 6;columbine as 11;bell 1");
        x.go(1);
        traits(due, x, 2, 0, 11, 4);
        due.test("promise 9: an AUNT and a HARP stay in GUISE 11");
        x = Towns.of("aunt as 11;harp as 11");
        x.go(60);
        traits(due, x, 2, 11, 11);
    }

    private static void goTheDay(Due due) {
        due.test("promise 9: on THE DAY nobody changes GUISE");
        BareThursday x = Towns.of("person as 3;noise as 3;aunt as 3;lady as 3;columbine as 3;harp as 3;wet as 3;bell 11");
        x.go(1);
        traits(due, x, 2, 3, 3, 3, 3, 3, 3, 3);
        due.test("promise 9: on THE DAY nobody is MET");
        x = Towns.of("noise;noise as 5;bell 11");
        x.go(1);
        traits(due, x, 3, 0, 0);
        due.test("promise 9: on the DAY ahead of THE DAY nobody comes to know, or passes");
        x = Towns.of("person;person;person;met 0 1;bell 10");
        due.is("go(1)", x.go(1), 0);
        traits(due, x, 4, 0, 0, 0);
        traits(due, x, 6, 0, 0, 0);
        due.test("promise 9: on the DAY behind THE DAY nobody comes to know, or passes");
        x = Edge.on(12, "person;person;person;met 0 1");
        due.is("go(11)", x.go(11), 0);
        traits(due, x, 4, 0, 0, 0);
        traits(due, x, 6, 0, 0, 0);
        due.test("promise 9: THE DAY leaves 11 by 12: DAYS 11, 23, 35 and no other");
        x = Towns.of("harp;harp");
        for (int day = 0; day < 48; day++) {
            x.go(1);
            due.is("behind DAY " + day + ", of(0, 6)", x.of(0, 6), (day + 1) / 12);
        }
    }

    private static void goMet(Due due) {
        due.test("promise 9: of a pair only the one that minds the other one's GUISE MET it");
        BareThursday x = Towns.of("noise;harp");
        x.go(1);
        traits(due, x, 3, 0, 0);
        x = Towns.of("noise;harp at 3");
        x.go(1);
        traits(due, x, 3, 2, 0);
        x = Towns.of("harp at 3;noise");
        x.go(1);
        traits(due, x, 3, 0, 1);
        due.test("promise 9: they must be AT one CELL: one CELL off is too far, past 15, too");
        x = Towns.of("noise;noise at 1;noise at 15");
        x.go(1);
        traits(due, x, 3, 0, 0, 0);
        due.test("promise 9: they are AT one CELL past 15");
        x = Towns.of("noise at 15;harp at 2");
        x.go(1);
        traits(due, x, 3, 2, 0);
        due.test("promise 9: whom one MET stays so");
        x = Towns.of("noise;harp at 3");
        x.go(60);
        traits(due, x, 3, 2, 0);
        due.test("promise 9: all eight meet each other");
        x = Towns.of("noise;noise;noise;noise;noise;noise;noise;noise");
        x.go(1);
        traits(due, x, 3, 254, 253, 251, 247, 239, 223, 191, 127);
    }

    private static void goOrder(Due due) {
        due.test("promise 9: pairs by the lesser number: a COLUMBINE that met 0 meets 2 no more");
        BareThursday x = Towns.of("harp as 2;columbine;harp as 3");
        x.go(1);
        traits(due, x, 3, 0, 1, 0);
        due.test("promise 9: then by the greater one: a COLUMBINE 0 meets 1, and 2 no more");
        x = Towns.of("columbine;harp as 2;harp as 3");
        x.go(1);
        traits(due, x, 3, 2, 0, 0);
        due.test("promise 9: one whose GUISE it doesn't mind is none it MET: the COLUMBINE meets the next one");
        x = Towns.of("columbine;harp as 7;harp as 3;harp as 4");
        x.go(1);
        traits(due, x, 3, 4, 0, 0, 0);
        due.test("promise 9: who is in GUISE 9 is MET by a COLUMBINE, too, whom else it MET");
        x = Towns.of("columbine;harp as 9;harp as 3;harp as 9");
        x.go(1);
        traits(due, x, 3, 2 | 8, 0, 0, 0);
        due.test("promise 9: a COLUMBINE that was MET by another one MET nobody by that");
        x = Towns.of("noise as 5;columbine at 3;harp at 3 as 2");
        x.go(1);
        // The noise is in guise 7 then, which the columbine in guise 5 does not mind.
        traits(due, x, 3, 6, 4, 0);
    }

    private static void goMinds(Due due) {
        due.test("promise 9: a PERSON minds by the GUISES into which both came, its own one not");
        BareThursday x = Towns.of("person;person");
        x.go(60);
        traits(due, x, 3, 0, 0);
        x = Towns.of("person;person as 1");
        x.go(1);
        traits(due, x, 3, 2, 1);
        due.test("promise 9: an AUNT minds GUISE 5, not 6, as it is then");
        x = Towns.of("aunt;person at 15 as 4;bell 2");
        x.go(1);
        traits(due, x, 3, 2, 1);
        x = Towns.of("aunt;person at 15 as 5;bell 2");
        x.go(1);
        traits(due, x, 3, 0, 1);
        due.test("promise 9: an AUNT minds GUISE 0 past 11");
        x = Towns.of("aunt;person at 15 as 11;bell 2");
        x.go(1);
        traits(due, x, 3, 2, 0);
        due.test("promise 9: a LADY minds its own GUISE, as it is then");
        x = Towns.of("lady as 7;harp at 1 as 8;harp at 1 as 7");
        x.go(1);
        traits(due, x, 3, 2, 0, 0);
        due.test("promise 9: a WET minds odd GUISES, as they are then");
        x = Towns.of("wet;person at 1;person at 1 as 11");
        x.go(1);
        traits(due, x, 3, 2, 5, 3);
        due.test("promise 9: a HARP never MET anybody");
        x = Towns.of("harp;harp as 5;harp as 9");
        x.go(60);
        traits(due, x, 3, 0, 0, 0);
    }

    private static void goSees(Due due) {
        due.test("promise 9: they see each other as FAR as the lesser of both SHINES, and no farther");
        passing(due, "person;person at 1", 1);
        passing(due, "person;person at 2", 0);
        passing(due, "columbine;columbine at 4", 1);
        passing(due, "columbine;columbine at 5", 0);
        passing(due, "aunt at 4;columbine at 2", 1);
        passing(due, "aunt at 4;columbine at 3", 0);
        passing(due, "harp;harp", 1);
        passing(due, "harp;harp at 1", 0);
        due.test("promise 9: they see each other past 15");
        passing(due, "person;person at 15", 1);
        passing(due, "aunt at 15;aunt at 1", 1);
        passing(due, "aunt at 15;aunt at 2", 0);
        passing(due, "columbine at 14;columbine at 2", 1);
        due.test("promise 9: one who is OUT is not seen, and sees nobody");
        passing(due, "person out;person", 0);
        passing(due, "person;person out", 0);
        due.test("promise 9: who are OUT come to know nobody");
        BareThursday x = Towns.of("person;person out;met 0 1;bell 11");
        due.is("go(1)", x.go(1), 0);
        traits(due, x, 4, 0, 0);
        due.test("promise 9: they are where they have walked to on THE DAY");
        passing(due, "columbine at 11;harp", 1);
        passing(due, "columbine;harp", 0);
    }

    private static void passing(Due due, String text, int want) {
        BareThursday x = Towns.of(text + ";bell 11");
        // An aunt walks 1 on that day, a columbine 5.
        due.is(text + ", go(1)", x.go(1), 0);
        traits(due, x, 6, want, want);
    }

    private static void goKnows(Due due) {
        due.test("promise 9: only if each MET the other one; else both pass");
        BareThursday x = Towns.of("person;person;bell 11");
        x.change(1, 3, 1);
        due.is("go(1)", x.go(1), 0);
        traits(due, x, 4, 0, 0);
        traits(due, x, 6, 1, 1);
        due.test("promise 9: who come to know don't pass");
        x = Towns.of("person;person;met 0 1;bell 11");
        due.is("go(1)", x.go(1), 2);
        traits(due, x, 4, 2, 1);
        traits(due, x, 6, 0, 0);
        due.test("promise 9: who KNEW the other one already is not gladdened again");
        x = Towns.of("wet;wet;met 0 1;bell 11");
        x.change(0, 4, 2);
        due.is("go(1)", x.go(1), 20);
        traits(due, x, 4, 2, 1);
        due.is("go(12)", x.go(12), 20);
        due.test("promise 9: both KNEW: neither JOY nor PASSED");
        x = Towns.of("wet;wet;met 0 1;bell 11");
        x.change(0, 4, 2);
        x.change(1, 4, 1);
        due.is("go(1)", x.go(1), 0);
        traits(due, x, 6, 0, 0);
        due.test("promise 9: who KNOW each other, but did not both MET, pass by");
        x = Towns.of("wet;wet;bell 11");
        x.change(0, 4, 2);
        x.change(1, 4, 1);
        due.is("go(1)", x.go(1), 0);
        traits(due, x, 4, 2, 1);
        traits(due, x, 6, 1, 1);
    }

    private static void goGladdens(Due due) {
        due.test("promise 9: by whom it KNEW ahead of that: nobody gladdens a LADY by 3, one by 4");
        BareThursday x = Edge.friends(2, Towns.LADY);
        due.is("go(12)", x.go(12), 6);
        x = Edge.friends(3, Towns.LADY);
        due.is("go(12)", x.go(12), 3 * (3 + 4));
        due.test("promise 9: a LADY comes to know seven, by 3 to 9");
        x = Edge.friends(8, Towns.LADY);
        due.is("go(12)", x.go(12), 8 * (3 + 4 + 5 + 6 + 7 + 8 + 9));
        traits(due, x, 4, 254, 253, 251, 247, 239, 223, 191, 127);
        due.test("promise 9: a COLUMBINE comes to know seven, by 9 to 27");
        x = Edge.friends(8, Towns.COLUMBINE);
        due.is("go(12)", x.go(12), 8 * 3 * (3 + 4 + 5 + 6 + 7 + 8 + 9));
        due.test("promise 9: a HARP is gladdened by nobody, but comes to know");
        x = Edge.friends(2, Towns.HARP);
        due.is("go(12)", x.go(12), 0);
        traits(due, x, 4, 2, 1);
    }

    private static void goPassed(Due due) {
        due.test("promise 9: PASSED is 9999 at most");
        BareThursday x = Towns.of("harp;harp;harp;bell 11");
        x.change(0, 6, 9999);
        x.change(1, 6, 9998);
        x.change(2, 6, 9997);
        x.go(1);
        traits(due, x, 6, 9999, 9999, 9999);
        x.go(12);
        traits(due, x, 6, 9999, 9999, 9999);
        due.test("promise 9: of eight, one passes seven on THE DAY");
        x = Towns.of("harp;harp;harp;harp;harp;harp;harp;harp;bell 11");
        x.go(1);
        traits(due, x, 6, 7, 7, 7, 7, 7, 7, 7, 7);
    }

    // More than the 512 calls of the document: within these DAY and JOY never come to 99999.
    private static void goDayLimit(Due due) {
        due.test("promise 9: DAY 99999 is ordinary, odd, and a multiple of 3");
        BareThursday x = Edge.old(0);
        due.is("now(7)", x.now(7), 0);
        x.person(Towns.AUNT, 0);
        x.person(Towns.LADY, 0);
        traits(due, x, 7, 1, 2);
        traits(due, x, 8, 0, 1);
        due.test("promises 11, 12, 13: what would be behind DAY 99999: DAY is 99999 at most");
        due.is("ahead(1, 1, 100)", x.ahead(1, 1, 100), 200 % 16);
        due.is("ahead(1, 2, 100)", x.ahead(1, 2, 100), 100 % 12);
        due.is("joy(100)", x.joy(100), 0);
        due.is("when(0, 1, 2)", x.when(0, 1, 2), 0);
        due.is("now(0)", x.now(0), 99999);
    }

    private static void goJoyLimit(Due due) {
        due.test("promise 9: JOY is 99999 at most");
        BareThursday x = Edge.friends(8, Towns.WET);
        for (int i = 1; i <= 89; i++) {
            for (int p = 0; p < 8; p++) {
                x.change(p, 4, 0);
            }
            due.is("go(12)", x.go(12), 1120 * i);
        }
        // Fifteen come to know by 20 each: 99980.
        x.change(0, 4, 0);
        x.change(1, 4, 0);
        x.change(2, 4, 251 & ~1);
        due.is("go(12)", x.go(12), 99980);
        x.change(3, 4, 247 & ~1);
        due.is("joy(12)", x.joy(12), 99999);
        due.is("go(12)", x.go(12), 99999);
        x.change(3, 4, 0);
        due.is("go(12)", x.go(12), 99999);
        due.is("count(2)", x.count(2), 99999);
        traits(due, x, 4, 254, 253, 251, 247);
        due.test("promises 16 to 19: JOY that is 99999 is most, and as now, whatever one does");
        x.change(3, 4, 0);
        x.change(3, 1, 5);
        due.is("standFor(3, 60)", x.standFor(3, 60), 0);
        due.is("guiseFor(3, 60)", x.guiseFor(3, 60), 0);
        due.is("kindFor(3, 60)", x.kindFor(3, 60), 0);
        due.is("dark(24)", x.dark(24), 0);
    }

    private static void nowRefused(Due due) {
        Edge.refused(due, "promise 10: a what too small is BEYOND", Due.BEYOND, x -> x.now(-1), x -> x.now(Edge.MIN));
        Edge.refused(due, "promise 10: a what too large is BEYOND", Due.BEYOND, x -> x.now(8), x -> x.now(Edge.MAX));
    }

    private static void nowEmpty(Due due) {
        due.test("promise 10: of nobody all are 0");
        BareThursday x = new BareThursday();
        for (int what = 0; what <= 7; what++) {
            due.is("now(" + what + ")", x.now(what), 0);
        }
        due.test("promise 10: of one alone there is no pair, and a GUISE 0 is worn");
        x = Towns.of("harp");
        due.is("now(3)", x.now(3), 0);
        due.is("now(4)", x.now(4), 0);
        due.is("now(5)", x.now(5), 1);
        due.test("promise 10: one alone of two who KNOWS the other one is somebody, but no pair");
        x = Towns.of("harp;harp");
        x.change(1, 4, 1);
        x.change(0, 3, 2);
        due.is("now(2)", x.now(2), 2);
        due.is("now(3)", x.now(3), 0);
        due.is("now(4)", x.now(4), 0);
    }

    private static void nowFull(Due due) {
        due.test("promise 10: all eight KNOW and MET each other: 28 pairs");
        BareThursday x = Edge.friends(8, Towns.HARP);
        due.is("now(2)", x.now(2), 0);
        due.is("now(3)", x.now(3), 0);
        due.is("now(4)", x.now(4), 28);
        for (int p = 0; p < 8; p++) {
            x.change(p, 4, 255 & ~(1 << p));
        }
        due.is("now(2)", x.now(2), 255);
        due.is("now(3)", x.now(3), 28);
        due.test("promise 10: PASSED of all together is no more bound to 9999");
        for (int p = 0; p < 8; p++) {
            x.change(p, 6, 9999);
        }
        due.is("now(6)", x.now(6), 79992);
        due.test("promise 10: GUISES 0 and 11 are worn, two in one count once");
        x = Towns.of("harp;harp as 11;harp as 11");
        due.is("now(5)", x.now(5), 2049);
    }

    private static void nowTheDay(Due due) {
        due.test("promise 10: it is THE DAY on 11 and 23, not on 0, 10, 12, 22 or 24");
        int[] days = {0, 1, 10, 11, 12, 22, 23, 24, 35, 36, 119, 120};
        int[] wants = {0, 0, 0, 1, 0, 0, 1, 0, 1, 0, 1, 0};
        for (int i = 0; i < days.length; i++) {
            due.is("on DAY " + days[i] + ", now(7)", Edge.on(days[i], "").now(7), wants[i]);
        }
    }
}
