/** Promises 36 to 40, and what FINDINGS are: each sentence that names a boundary case. */
final class EdgeImageTest {
    private EdgeImageTest() {
    }

    static void all(Due due) {
        imageOfNothing(due);
        imageKeeps(due);
        undo(due);
        tear(due);
        countRefused(due);
        countEdges(due);
        statusRefused(due);
        statusEach(due);
        statusStays(due);
    }

    private static void imageOfNothing(Due due) {
        due.test("promise 36: of a new object an image may be kept, too");
        BareThursday x = new BareThursday();
        due.is("image()", x.image(), 1);
        x.person(0, 5);
        x.go(3);
        x.seed(5);
        due.is("undo()", x.undo(), 0);
        due.is("count(1)", x.count(1), 0);
        due.is("count(6)", x.count(6), 1);
        due.test("promise 36: the image kept latest is the only one");
        x = Towns.of("harp");
        due.is("image()", x.image(), 1);
        x.go(1);
        due.is("image()", x.image(), 1);
        x.go(1);
        due.is("undo()", x.undo(), 1);
        due.is("undo()", x.undo(), 1);
    }

    private static void imageKeeps(Due due) {
        int[] others = {2, 9, 3, 4, 0, 1, 5};
        for (int what = 0; what <= 6; what++) {
            due.test("promise 36: what " + what + " of one is kept");
            BareThursday x = Edge.few();
            x.image();
            int was = x.change(0, what, others[what]);
            due.is("it changed", x.of(0, what) == was ? 1 : 0, 0);
            x.undo();
            due.is("of(0, " + what + ")", x.of(0, what), was);
        }
        due.test("promise 36: DAY, JOY and z are kept");
        BareThursday x = Edge.friends(2, Towns.WET);
        x.go(11);
        x.seed(-8);
        x.image();
        due.is("go(1)", x.go(1), 40);
        x.seed(9);
        due.is("undo()", x.undo(), 11);
        due.is("now(1)", x.now(1), 0);
        due.is("count(6)", x.count(6), -8);
        due.test("promise 36: SPOTS are kept");
        x.hold(2, 1);
        x.image();
        x.hold(2, -1);
        x.hold(3, 0);
        x.undo();
        due.is("as(2, 0)", x.as(2, 0), 1);
        due.is("as(3, 0)", x.as(3, 0), Due.MISSING);
        due.test("promise 36: THE TAPE is not kept");
        x = Towns.of("harp");
        x.feed(65, 3);
        x.image();
        x.feed(65, 4);
        x.undo();
        due.is("count(5)", x.count(5), 7);
        x.wipe();
        x.undo();
        due.is("count(5)", x.count(5), 0);
        due.test("promise 36: SHEETS are not kept");
        Towns.row(x, 0, 8, 5);
        x.sheet(1, 8, 1);
        x.image();
        Towns.row(x, 0, 8, 6);
        x.sheet(1, 0, 0);
        x.sheet(2, 8, 1);
        x.undo();
        due.is("load(0)", x.load(0), 1);
        due.is("of(0, 2)", x.of(0, 2), 6);
        due.is("load(1)", x.load(1), Due.MISSING);
        due.is("load(2)", x.load(2), 1);
    }

    private static void undo(Due due) {
        Edge.refusedIn(due, "promise 37: nothing is kept: NONE", () -> Towns.of("harp at 3;wet;bell 3"), Due.NONE, x -> x.undo());
        Edge.refusedIn(due, "promise 37: nothing is kept any more: NONE", () -> torn(), Due.NONE, x -> x.undo());
        due.test("promise 37: what was kept stays: undo again");
        BareThursday x = Towns.of("harp;bell 4");
        x.image();
        for (int i = 0; i < 5; i++) {
            x.change(0, 2, 3 + i);
            x.person(0, 0);
            x.hold(i, 1);
            due.is("undo()", x.undo(), 4);
            due.is("of(0, 2)", x.of(0, 2), 0);
            due.is("count(1)", x.count(1), 1);
            due.is("count(7)", x.count(7), 0);
        }
        due.test("promise 37: one that is taken back is there no more");
        x.person(0, 0);
        x.undo();
        due.is("of(1, 0)", x.of(1, 0), Due.BEYOND);
        due.is("hold(0, 1)", x.hold(0, 1), Due.BEYOND);
        due.test("promise 37: one that is new then is new in all");
        x.person(Towns.LADY, 5);
        x.change(1, 2, 7);
        x.change(1, 3, 1);
        x.change(1, 4, 1);
        x.change(1, 5, 1);
        x.change(1, 6, 7);
        x.undo();
        due.is("person(0, 2)", x.person(0, 2), 1);
        for (int what = 2; what <= 6; what++) {
            due.is("of(1, " + what + ")", x.of(1, what), 0);
        }
    }

    private static BareThursday torn() {
        BareThursday x = Towns.of("harp at 3");
        x.image();
        x.go(5);
        x.tear();
        return x;
    }

    private static void tear(Due due) {
        due.test("promise 38: nothing was kept: 0");
        BareThursday x = Towns.of("harp;bell 3");
        due.is("tear()", x.tear(), 0);
        due.is("tear()", x.tear(), 0);
        due.test("promise 38: something was kept: 1, and then nothing is");
        x.image();
        x.image();
        x.go(2);
        due.is("tear()", x.tear(), 1);
        due.is("tear()", x.tear(), 0);
        due.is("undo()", x.undo(), Due.NONE);
        due.is("now(0)", x.now(0), 5);
        due.test("promise 38: an image kept behind that is there");
        x.image();
        x.go(1);
        due.is("undo()", x.undo(), 5);
        due.is("tear()", x.tear(), 1);
        due.test("promise 38: tear is no finding");
        x = new BareThursday();
        x.tear();
        due.is("status(-1)", x.status(-1), 0);
    }

    private static void countRefused(Due due) {
        Edge.refused(due, "promise 39: a what too small is BEYOND", Due.BEYOND, x -> x.count(-1), x -> x.count(Edge.MIN));
        Edge.refused(due, "promise 39: a what too large is BEYOND", Due.BEYOND, x -> x.count(8), x -> x.count(Edge.MAX));
    }

    private static void countEdges(Due due) {
        due.test("promise 39: of a new object");
        BareThursday x = new BareThursday();
        int[] wants = {0, 0, 0, 0, 0, 0, 1, 0};
        for (int what = 0; what <= 7; what++) {
            due.is("count(" + what + ")", x.count(what), wants[what]);
        }
        due.test("promise 39: eight PEOPLE, 28 pairs, ten SPOTS, 120 bytes, PASSED of all together");
        x = Edge.many();
        for (int p = 0; p < 8; p++) {
            x.change(p, 4, 255 & ~(1 << p));
            x.change(p, 6, 9999);
        }
        for (int spot = 0; spot < 10; spot++) {
            x.hold(spot, 7 - spot % 8);
        }
        due.is("count(1)", x.count(1), 8);
        due.is("count(3)", x.count(3), 28);
        due.is("count(4)", x.count(4), 79992);
        due.is("count(5)", x.count(5), 120);
        due.is("count(7)", x.count(7), 10);
        due.test("promise 39: who KNOWS one that doesn't is no pair");
        x.change(0, 4, 0);
        due.is("count(3)", x.count(3), 21);
    }

    private static void statusRefused(Due due) {
        Edge.refused(due, "promise 40: another one is BEYOND", Due.BEYOND,
                x -> x.status(-2), x -> x.status(7), x -> x.status(Edge.MIN), x -> x.status(Edge.MAX));
        due.test("promise 40: another one is counted from then on");
        BareThursday x = new BareThursday();
        due.is("status(-1)", x.status(-1), 0);
        due.is("status(7)", x.status(7), Due.BEYOND);
        due.is("status(-1)", x.status(-1), 1);
        due.is("status(0)", x.status(0), 1);
        due.is("status(-2)", x.status(-2), Due.BEYOND);
        due.is("status(-1)", x.status(-1), 2);
        due.is("status(0)", x.status(0), 2);
        due.test("promise 40: to ask of status is no finding");
        for (int which = -1; which <= 6; which++) {
            x.status(which);
        }
        due.is("status(-1)", x.status(-1), 2);
    }

    private static void statusEach(Due due) {
        BareThursday x = Edge.many();
        due.test("promise 40: 0 is BEYOND, -1000001");
        one(due, x, 0, x.who(16), -1000001);
        due.test("promise 40: 1 is FULL, -1000002");
        one(due, x, 1, x.feed(0, 1), -1000002);
        due.test("promise 40: 2 is KIND, -1000003");
        x.hold(0, 0);
        one(due, x, 2, x.as(0, 5), -1000003);
        due.test("promise 40: 3 is NONE, -1000004");
        one(due, x, 3, x.undo(), -1000004);
        due.test("promise 40: 5 is MISSING, -1000006");
        one(due, x, 5, x.as(1, 5), -1000006);
        due.test("promise 40: 6 is SIZE, -1000007");
        one(due, x, 6, x.sheet(0, 8, -1), -1000007);
        due.is("status(-1)", x.status(-1), 6);
        due.test("promise 40: 4 is STATE, -1000005");
        x = Edge.old(0);
        one(due, x, 4, x.go(1), -1000005);
        due.is("status(-1)", x.status(-1), 1);
        due.test("promise 40: a finding in longs is counted, too");
        due.is("odds(0, 0, 0)", x.odds(0, 0, 0), -1000001L);
        due.is("status(0)", x.status(0), 1);
    }

    private static void one(Due due, BareThursday x, int which, int got, int finding) {
        due.is("the finding", got, finding);
        due.is("status(" + which + ")", x.status(which), 1);
    }

    private static void statusStays(Due due) {
        due.test("promise 40: undo takes none back, nor does tear, wipe, or a sheet");
        BareThursday x = Towns.of("harp");
        x.image();
        x.who(16);
        x.as(0, 0);
        x.undo();
        x.tear();
        x.wipe();
        x.sheet(0, 0, 0);
        due.is("status(-1)", x.status(-1), 2);
        due.is("status(0)", x.status(0), 1);
        due.is("status(5)", x.status(5), 1);
        due.test("promise 40: all is the sum of each");
        x.undo();
        x.undo();
        x.sheet(0, 8, -1);
        int all = 0;
        for (int which = 0; which <= 6; which++) {
            all += x.status(which);
        }
        due.is("all", all, 5);
        due.is("status(-1)", x.status(-1), 5);
        due.is("status(3)", x.status(3), 2);
    }
}
