/** Promises 1 to 8: each sentence that names a boundary case. */
final class EdgeTownTest {
    private EdgeTownTest() {
    }

    static void all(Due due) {
        newObject(due);
        newSpotsAndSheets(due);
        callsOfOne(due);
        personRefused(due);
        personTaken(due);
        ofRefused(due);
        ofWalks(due);
        ofShifts(due);
        ofShinesAndGladdens(due);
        changeRefused(due);
        changeSetsRefused(due);
        changeTaken(due);
        mindsRefused(due);
        mindsEdges(due);
        farRefused(due);
        farEdges(due);
        who(due);
        twoRefused(due);
        twoSets(due);
        twoSees(due);
    }

    private static void newObject(Due due) {
        due.test("promise 1: nobody is there");
        BareThursday x = new BareThursday();
        due.is("count(1)", x.count(1), 0);
        due.is("of(0, 0)", x.of(0, 0), Due.BEYOND);
        for (int c = 0; c < 16; c++) {
            due.is("who(" + c + ")", x.who(c), 0);
        }
        due.is("now(2)", x.now(2), 0);
        due.is("now(5)", x.now(5), 0);

        due.test("promise 1: THE TAPE is empty");
        x = new BareThursday();
        due.is("count(5)", x.count(5), 0);
        due.is("wipe()", x.wipe(), 0);
        due.is("text()", x.text(), -1);

        due.test("promise 1: no image is kept");
        x = new BareThursday();
        due.is("undo()", x.undo(), Due.NONE);
        due.is("tear()", x.tear(), 0);

        due.test("promise 1: JOY is 0 at first, and DAY");
        x = new BareThursday();
        due.is("now(0)", x.now(0), 0);
        due.is("count(0)", x.count(0), 0);
        due.is("now(1)", x.now(1), 0);
        due.is("count(2)", x.count(2), 0);

        due.test("promise 1: z is 1 at first");
        x = new BareThursday();
        due.is("count(6)", x.count(6), 1);
        due.is("seed(1)", x.seed(1), 1);
    }

    private static void newSpotsAndSheets(Due due) {
        due.test("promise 1: SPOTS hold nothing at first");
        BareThursday x = new BareThursday();
        due.is("count(7)", x.count(7), 0);
        x.person(0, 0);
        for (int spot = 0; spot < 10; spot++) {
            due.is("as(" + spot + ", 0)", x.as(spot, 0), Due.MISSING);
        }

        due.test("promise 1: SHEETS are MISSING at first");
        x = new BareThursday();
        for (int s = 0; s < 4; s++) {
            due.is("load(" + s + ")", x.load(s), Due.MISSING);
            due.is("judge(" + s + ")", x.judge(s), Due.MISSING);
            due.is("write(" + s + ", 0, 0)", x.write(s, 0, 0), Due.MISSING);
        }

        due.test("promise 1: no finding was answered yet");
        x = new BareThursday();
        for (int which = -1; which <= 6; which++) {
            due.is("status(" + which + ")", x.status(which), 0);
        }
    }

    private static void callsOfOne(Due due) {
        due.test("promise 1: an object is used for 512 calls");
        BareThursday x = new BareThursday();
        for (int i = 0; i < 511; i++) {
            due.is("of(0, 0)", x.of(0, 0), Due.BEYOND);
        }
        due.is("call 512: status(0)", x.status(0), 511);

        due.test("promise 1: one object holds nothing of another one");
        BareThursday y = Edge.few();
        x = new BareThursday();
        y.go(5);
        due.same("all", Edge.seen(x), Edge.seen(new BareThursday()));
        due.is("count(1)", y.count(1), 3);
    }

    private static void personRefused(Due due) {
        Edge.refused(due, "promise 2: a kind too small is BEYOND", Due.BEYOND,
                x -> x.person(-1, 0), x -> x.person(Edge.MIN, 0));
        Edge.refused(due, "promise 2: a kind too large is BEYOND", Due.BEYOND,
                x -> x.person(7, 0), x -> x.person(Edge.MAX, 0));
        Edge.refused(due, "promise 2: a cell too small is BEYOND", Due.BEYOND,
                x -> x.person(0, -1), x -> x.person(0, Edge.MIN));
        Edge.refused(due, "promise 2: a cell too large is BEYOND", Due.BEYOND,
                x -> x.person(0, 16), x -> x.person(0, Edge.MAX));
        Edge.refusedIn(due, "promise 2: a ninth one is FULL", Edge::many, Due.FULL,
                x -> x.person(0, 0), x -> x.person(6, 15));
        Edge.refusedIn(due, "promise 2: BEYOND is asked ahead of FULL", Edge::many, Due.BEYOND,
                x -> x.person(7, 0), x -> x.person(-1, 0), x -> x.person(0, 16), x -> x.person(0, -1));
    }

    private static void personTaken(Due due) {
        due.test("promise 2: the least and the most kind and cell are taken");
        BareThursday x = new BareThursday();
        due.is("person(0, 0)", x.person(0, 0), 0);
        due.is("person(6, 15)", x.person(6, 15), 1);
        due.is("person(0, 15)", x.person(0, 15), 2);
        due.is("person(6, 0)", x.person(6, 0), 3);
        due.is("of(1, 0)", x.of(1, 0), 6);
        due.is("of(1, 1)", x.of(1, 1), 15);
        due.is("of(3, 1)", x.of(3, 1), 0);

        due.test("promise 2: the eighth one is number 7");
        x = Edge.friends(7, Towns.HARP);
        due.is("person(0, 0)", x.person(0, 0), 7);
        due.is("count(1)", x.count(1), 8);

        due.test("promise 2: a new one is in guise 0, met and knows nobody, is not out, was passed never");
        x = Edge.few();
        due.is("person(5, 8)", x.person(5, 8), 3);
        for (int what = 2; what <= 6; what++) {
            due.is("of(3, " + what + ")", x.of(3, what), 0);
        }
        for (int p = 0; p < 3; p++) {
            due.is("of(" + p + ", 3) has no new one", x.of(p, 3) >> 3, 0);
        }

        due.test("promise 2: full no more, where an undo took back");
        x = Edge.friends(7, Towns.HARP);
        x.image();
        x.person(0, 0);
        due.is("person(0, 0)", x.person(0, 0), Due.FULL);
        x.undo();
        due.is("person(0, 9)", x.person(0, 9), 7);
    }

    private static void ofRefused(Due due) {
        Edge.refused(due, "promise 3: a number too small is BEYOND", Due.BEYOND, x -> x.of(-1, 0), x -> x.of(Edge.MIN, 10));
        Edge.refused(due, "promise 3: a number too large is BEYOND", Due.BEYOND,
                x -> x.of(3, 0), x -> x.of(8, 0), x -> x.of(Edge.MAX, 10));
        Edge.refused(due, "promise 3: a what too small is BEYOND", Due.BEYOND, x -> x.of(0, -1), x -> x.of(0, Edge.MIN));
        Edge.refused(due, "promise 3: a what too large is BEYOND", Due.BEYOND, x -> x.of(0, 11), x -> x.of(0, Edge.MAX));
        Edge.refusedIn(due, "promise 3: of eight, number 8 is BEYOND", Edge::many, Due.BEYOND, x -> x.of(8, 0));
        Edge.refusedIn(due, "promise 3: of nobody, number 0 is BEYOND", BareThursday::new, Due.BEYOND, x -> x.of(0, 0));
        due.test("promise 3: the least and the most number and what are told");
        BareThursday x = Edge.many();
        due.is("of(0, 0)", x.of(0, 0), 0);
        due.is("of(7, 0)", x.of(7, 0), 0);
        due.is("of(7, 1)", x.of(7, 1), 14);
        due.is("of(6, 10)", x.of(6, 10), 20);
    }

    private static void byDay(Due due, String kind, int what, int... daysAndWants) {
        for (int i = 0; i + 1 < daysAndWants.length; i += 2) {
            BareThursday x = Edge.on(daysAndWants[i], kind);
            due.is(kind + " on DAY " + daysAndWants[i] + ", of(0, " + what + ")", x.of(0, what), daysAndWants[i + 1]);
        }
    }

    private static void ofWalks(Due due) {
        due.test("promise 3: a PERSON walks 1 on each DAY");
        byDay(due, "person", 7, 0, 1, 1, 1, 11, 1);
        due.test("promise 3: a NOISE walks thrice a PERSON");
        byDay(due, "noise", 7, 0, 3, 1, 3, 11, 3);
        due.test("promise 3: a WET walks as a NOISE, less 1");
        byDay(due, "wet", 7, 0, 2, 1, 2, 11, 2);
        due.test("promise 3: an AUNT walks 1, if DAY is odd, else 0");
        byDay(due, "aunt", 7, 0, 0, 1, 1, 2, 0, 10, 0, 11, 1, 12, 0, 13, 1);
        due.test("promise 3: a LADY walks as an AUNT, and 1");
        byDay(due, "lady", 7, 0, 1, 1, 2, 2, 1, 10, 1, 11, 2, 12, 1, 13, 2);
        due.test("promise 3: a COLUMBINE walks 5 on THE DAY, else 0");
        byDay(due, "columbine", 7, 0, 0, 1, 0, 10, 0, 11, 5, 12, 0, 22, 0, 23, 5, 24, 0, 35, 5, 36, 0);
        due.test("promise 3: a HARP walks 0");
        byDay(due, "harp", 7, 0, 0, 1, 0, 11, 0);
    }

    private static void ofShifts(Due due) {
        due.test("promise 3: a PERSON shifts 1");
        byDay(due, "person", 8, 0, 1, 1, 1, 3, 1, 11, 1);
        due.test("promise 3: a NOISE shifts twice a PERSON, a WET as a NOISE");
        byDay(due, "noise", 8, 0, 2, 1, 2, 3, 2, 11, 2);
        byDay(due, "wet", 8, 0, 2, 1, 2, 3, 2, 11, 2);
        due.test("promise 3: an AUNT shifts 0");
        byDay(due, "aunt", 8, 0, 0, 1, 0, 3, 0, 11, 0);
        due.test("promise 3: a LADY shifts 1, if DAY is a multiple of 3, as 0 is, else 0");
        byDay(due, "lady", 8, 0, 1, 1, 0, 2, 0, 3, 1, 4, 0, 5, 0, 6, 1, 9, 1, 11, 0, 12, 1);
        due.test("promise 3: a COLUMBINE shifts 5, a HARP 0");
        byDay(due, "columbine", 8, 0, 5, 1, 5, 3, 5, 11, 5);
        byDay(due, "harp", 8, 0, 0, 1, 0, 3, 0, 11, 0);
    }

    private static void ofShinesAndGladdens(Due due) {
        due.test("promise 3: a NOISE shines as a PERSON, less 1: 0");
        byDay(due, "person", 9, 0, 1, 11, 1);
        byDay(due, "noise", 9, 0, 0, 11, 0);
        byDay(due, "wet", 9, 0, 0, 11, 0);
        byDay(due, "harp", 9, 0, 0, 11, 0);
        due.test("promise 3: an AUNT shines as a PERSON, and 1, a LADY as an AUNT, a COLUMBINE twice a LADY");
        byDay(due, "aunt", 9, 0, 2, 11, 2);
        byDay(due, "lady", 9, 0, 2, 11, 2);
        byDay(due, "columbine", 9, 0, 4, 11, 4);
        due.test("promise 3: a LADY gladdens 1 more for each one that it KNOWS already, nobody to all seven");
        BareThursday x = Edge.friends(8, Towns.LADY);
        for (int knows = 0; knows <= 7; knows++) {
            x.change(0, 4, (1 << knows) - 1 << 1);
            due.is("knows " + knows + ", of(0, 10)", x.of(0, 10), 3 + knows);
        }
        due.test("promise 3: a COLUMBINE gladdens thrice a LADY, with all that it KNOWS");
        x.change(0, 0, Towns.COLUMBINE);
        due.is("knows 7, of(0, 10)", x.of(0, 10), 30);
        x.change(0, 4, 0);
        due.is("knows 0, of(0, 10)", x.of(0, 10), 9);
        due.test("promise 3: what others gladden asks not whom they KNOW");
        int[] wants = {1, 1, 3, 0, 0, 0, 20};
        int[] others = {Towns.PERSON, Towns.NOISE, Towns.AUNT, Towns.HARP, Towns.WET};
        for (int kind : others) {
            x.change(0, 0, kind);
            x.change(0, 4, 0);
            due.is("kind " + kind + " knows 0, of(0, 10)", x.of(0, 10), wants[kind]);
            x.change(0, 4, 254);
            due.is("kind " + kind + " knows 7, of(0, 10)", x.of(0, 10), wants[kind]);
        }
    }

    private static void changeRefused(Due due) {
        Edge.refused(due, "promise 4: a number too small is BEYOND", Due.BEYOND,
                x -> x.change(-1, 2, 1), x -> x.change(Edge.MIN, 2, 1));
        Edge.refused(due, "promise 4: a number too large is BEYOND", Due.BEYOND,
                x -> x.change(3, 2, 1), x -> x.change(Edge.MAX, 2, 1));
        Edge.refused(due, "promise 4: a what too small is BEYOND", Due.BEYOND,
                x -> x.change(0, -1, 1), x -> x.change(0, Edge.MIN, 1));
        Edge.refused(due, "promise 4: a what too large is BEYOND: what one WALKS is no matter of change", Due.BEYOND,
                x -> x.change(0, 7, 1), x -> x.change(0, 8, 1), x -> x.change(0, 10, 1), x -> x.change(0, Edge.MAX, 1));
        int[] mosts = {6, 15, 11, 6, 6, 1, 9999};
        String[] names = {"KIND", "CELL", "GUISE", "MET", "KNOWS", "OUT", "PASSED"};
        for (int what = 0; what <= 6; what++) {
            int w = what;
            int most = mosts[what];
            Edge.refused(due, "promise 4: a " + names[what] + " too small is BEYOND", Due.BEYOND,
                    x -> x.change(0, w, -1), x -> x.change(0, w, Edge.MIN));
            Edge.refused(due, "promise 4: a " + names[what] + " too large is BEYOND", Due.BEYOND,
                    x -> x.change(0, w, most + 1), x -> x.change(0, w, Edge.MAX));
        }
    }

    private static void changeSetsRefused(Due due) {
        for (int what = 3; what <= 4; what++) {
            int w = what;
            Edge.refused(due, "promise 4: what " + what + ": a set with itself is BEYOND", Due.BEYOND,
                    x -> x.change(0, w, 1), x -> x.change(1, w, 2), x -> x.change(2, w, 7));
            Edge.refused(due, "promise 4: what " + what + ": a set with one who isn't there is BEYOND", Due.BEYOND,
                    x -> x.change(0, w, 8), x -> x.change(0, w, 2 | 128), x -> x.change(0, w, 256));
            Edge.refusedIn(due, "promise 4: what " + what + ": of eight, a set with a ninth is BEYOND", Edge::many,
                    Due.BEYOND, x -> x.change(7, w, 256), x -> x.change(0, w, 255), x -> x.change(0, w, 254 + 512));
            due.test("promise 4: what " + what + ": the empty set, and the set of all seven others, are taken");
            BareThursday x = Edge.many();
            for (int p = 0; p < 8; p++) {
                due.is("change(" + p + ", all)", x.change(p, w, 255 & ~(1 << p)), 0);
                due.is("change(" + p + ", none)", x.change(p, w, 0), 255 & ~(1 << p));
                due.is("of(" + p + ")", x.of(p, w), 0);
            }
            due.test("promise 4: what " + what + ": of one alone, the empty set is the only one");
            x = Towns.of("harp");
            due.is("change(0, 0)", x.change(0, w, 0), 0);
            due.is("change(0, 1)", x.change(0, w, 1), Due.BEYOND);
            due.is("change(0, 2)", x.change(0, w, 2), Due.BEYOND);
        }
    }

    private static void changeTaken(Due due) {
        int[] mosts = {6, 15, 11, 6, 6, 1, 9999};
        for (int what = 0; what <= 6; what++) {
            due.test("promise 4: what " + what + ": the least and the most are taken");
            BareThursday x = Edge.few();
            int was = x.of(0, what);
            due.is("change to the most", x.change(0, what, mosts[what]), was);
            due.is("of()", x.of(0, what), mosts[what]);
            due.is("change to the least", x.change(0, what, 0), mosts[what]);
            due.is("of()", x.of(0, what), 0);
            due.is("change to the same", x.change(0, what, 0), 0);
        }
        due.test("promise 4: what one KNOWS or MET is not told of the other one");
        BareThursday x = Towns.of("harp;harp");
        x.change(0, 3, 2);
        x.change(0, 4, 2);
        due.is("of(1, 3)", x.of(1, 3), 0);
        due.is("of(1, 4)", x.of(1, 4), 0);
    }

    private static void mindsRefused(Due due) {
        Edge.refused(due, "promise 5: a number too small is BEYOND", Due.BEYOND,
                x -> x.minds(-1, 0), x -> x.minds(Edge.MIN, 0));
        Edge.refused(due, "promise 5: a number too large is BEYOND", Due.BEYOND,
                x -> x.minds(3, 0), x -> x.minds(Edge.MAX, 0));
        Edge.refused(due, "promise 5: a guise too small is BEYOND", Due.BEYOND,
                x -> x.minds(0, -1), x -> x.minds(0, Edge.MIN));
        Edge.refused(due, "promise 5: a guise too large is BEYOND", Due.BEYOND,
                x -> x.minds(0, 12), x -> x.minds(0, Edge.MAX));
        due.test("promise 5: the least and the most guise are told");
        BareThursday x = Towns.of("noise;harp");
        due.is("minds(0, 0)", x.minds(0, 0), 1);
        due.is("minds(0, 11)", x.minds(0, 11), 1);
        due.is("minds(1, 0)", x.minds(1, 0), 0);
        due.is("minds(1, 11)", x.minds(1, 11), 0);
    }

    private static void minded(Due due, BareThursday x, int set) {
        for (int g = 0; g < 12; g++) {
            due.is("minds(0, " + g + ")", x.minds(0, g), set >> g & 1);
        }
    }

    private static void mindsEdges(Due due) {
        due.test("promise 5: a PERSON minds all but its own guise, 0 and 11, too");
        minded(due, Towns.of("person as 0"), 4095 & ~1);
        minded(due, Towns.of("person as 11"), 4095 & ~2048);
        due.test("promise 5: a NOISE minds all, its own, too");
        minded(due, Towns.of("noise as 3"), 4095);
        due.test("promise 5: a WET minds odd guises");
        minded(due, Towns.of("wet as 4"), 2 | 8 | 32 | 128 | 512 | 2048);
        due.test("promise 5: an AUNT minds a guise of 5 or less");
        minded(due, Towns.of("aunt as 6"), 63);
        due.test("promise 5: a LADY minds as an AUNT, or its own guise");
        minded(due, Towns.of("lady as 6"), 127);
        minded(due, Towns.of("lady as 5"), 63);
        minded(due, Towns.of("lady as 11"), 63 | 2048);
        due.test("promise 5: a COLUMBINE that met nobody yet minds 9, and as a LADY");
        minded(due, Towns.of("columbine as 6;harp"), 127 | 512);
        minded(due, Towns.of("columbine as 9;harp"), 63 | 512);
        due.test("promise 5: a COLUMBINE that met somebody minds 9 alone");
        minded(due, Towns.of("columbine as 6;harp;met 0 1"), 512);
        due.test("promise 5: whom others met, or whom it KNOWS, is nothing to a COLUMBINE");
        BareThursday x = Towns.of("columbine as 6;harp");
        x.change(1, 3, 1);
        x.change(0, 4, 2);
        minded(due, x, 127 | 512);
        due.test("promise 5: a HARP minds none");
        minded(due, Towns.of("harp as 3"), 0);
    }

    private static void farRefused(Due due) {
        Edge.refused(due, "promise 6: one and the same is BEYOND", Due.BEYOND, x -> x.far(0, 0), x -> x.far(2, 2));
        Edge.refused(due, "promise 6: a number too small is BEYOND", Due.BEYOND,
                x -> x.far(-1, 0), x -> x.far(0, -1), x -> x.far(Edge.MIN, 0), x -> x.far(-1, -1));
        Edge.refused(due, "promise 6: a number too large is BEYOND", Due.BEYOND,
                x -> x.far(3, 0), x -> x.far(0, 3), x -> x.far(0, Edge.MAX), x -> x.far(3, 3));
    }

    private static void farOf(Due due, int a, int b, int want) {
        BareThursday x = Towns.of("harp at " + a + ";harp at " + b);
        due.is("far from " + a + " to " + b, x.far(0, 1), want);
        due.is("far from " + b + " to " + a, x.far(1, 0), want);
    }

    private static void farEdges(Due due) {
        due.test("promise 6: two at one cell are 0 far");
        farOf(due, 0, 0, 0);
        farOf(due, 15, 15, 0);
        due.test("promise 6: two at opposite cells are 8 far, the most");
        farOf(due, 0, 8, 8);
        farOf(due, 7, 15, 8);
        due.test("promise 6: next to 15 is 0");
        farOf(due, 15, 0, 1);
        due.test("promise 6: the shorter way round");
        farOf(due, 0, 7, 7);
        farOf(due, 0, 9, 7);
        farOf(due, 1, 14, 3);
        farOf(due, 2, 12, 6);
    }

    private static void who(Due due) {
        Edge.refused(due, "promise 7: a cell too small is BEYOND", Due.BEYOND, x -> x.who(-1), x -> x.who(Edge.MIN));
        Edge.refused(due, "promise 7: a cell too large is BEYOND", Due.BEYOND, x -> x.who(16), x -> x.who(Edge.MAX));
        due.test("promise 7: a cell at which nobody is has the empty set");
        BareThursday x = Towns.of("harp at 0;harp at 15;harp at 15");
        due.is("who(1)", x.who(1), 0);
        due.is("who(14)", x.who(14), 0);
        due.test("promise 7: the least and the most cell");
        due.is("who(0)", x.who(0), 1);
        due.is("who(15)", x.who(15), 6);
        due.test("promise 7: all eight at one cell");
        due.is("who(0)", Edge.friends(8, Towns.HARP).who(0), 255);
    }

    private static void twoRefused(Due due) {
        Edge.refused(due, "promise 8: one and the same is BEYOND", Due.BEYOND,
                x -> x.two(0, 0, 0), x -> x.two(1, 1, 1), x -> x.two(2, 2, 2));
        Edge.refused(due, "promise 8: a number too small is BEYOND", Due.BEYOND,
                x -> x.two(-1, 0, 0), x -> x.two(0, -1, 1), x -> x.two(0, Edge.MIN, 2));
        Edge.refused(due, "promise 8: a number too large is BEYOND", Due.BEYOND,
                x -> x.two(3, 0, 0), x -> x.two(0, 3, 1), x -> x.two(Edge.MAX, 0, 2));
        Edge.refused(due, "promise 8: a what too small is BEYOND", Due.BEYOND,
                x -> x.two(0, 1, -1), x -> x.two(0, 1, Edge.MIN));
        Edge.refused(due, "promise 8: a what too large is BEYOND", Due.BEYOND,
                x -> x.two(0, 1, 3), x -> x.two(0, 1, Edge.MAX));
    }

    private static void twoSets(Due due) {
        for (int what = 0; what <= 1; what++) {
            due.test("promise 8: what " + what + ": one alone of the two is not both");
            BareThursday x = Towns.of("harp;harp");
            due.is("two(0, 1)", x.two(0, 1, what), 0);
            x.change(0, 3 + what, 2);
            due.is("two(0, 1)", x.two(0, 1, what), 0);
            due.is("two(1, 0)", x.two(1, 0, what), 0);
            x.change(1, 3 + what, 1);
            due.is("two(0, 1)", x.two(0, 1, what), 1);
            due.is("two(1, 0)", x.two(1, 0, what), 1);
            due.is("the other what", x.two(0, 1, 1 - what), 0);
        }
    }

    private static void sees(Due due, String text, int want) {
        BareThursday x = Towns.of(text);
        due.is(text + ", two(0, 1, 2)", x.two(0, 1, 2), want);
        due.is(text + ", two(1, 0, 2)", x.two(1, 0, 2), want);
    }

    private static void twoSees(Due due) {
        due.test("promise 8: no more FAR than the lesser of what both SHINE: as far, and one farther");
        sees(due, "person;person at 1", 1);
        sees(due, "person;person at 2", 0);
        sees(due, "aunt;columbine at 2", 1);
        sees(due, "aunt;columbine at 3", 0);
        sees(due, "columbine;columbine at 4", 1);
        sees(due, "columbine;columbine at 5", 0);
        due.test("promise 8: who shines 0 is seen at one cell alone");
        sees(due, "harp;columbine", 1);
        sees(due, "harp;columbine at 1", 0);
        sees(due, "wet;noise", 1);
        sees(due, "wet;noise at 15", 0);
        due.test("promise 8: they see each other past 15, too");
        sees(due, "person at 15;person at 0", 1);
        sees(due, "lady at 1;lady at 15", 1);
        sees(due, "lady at 1;lady at 14", 0);
        due.test("promise 8: neither is OUT");
        sees(due, "person out;person", 0);
        sees(due, "person;person out", 0);
        sees(due, "person out;person out", 0);
    }
}
