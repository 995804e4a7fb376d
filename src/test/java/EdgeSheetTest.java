/** Promises 29 to 35: each sentence that names a boundary case. */
final class EdgeSheetTest {
    private EdgeSheetTest() {
    }

    static void all(Due due) {
        holdRefused(due);
        holdTaken(due);
        asRefused(due);
        asUnder(due);
        sheetRefused(due);
        sheetTaken(due);
        writeRefused(due);
        writeBits(due);
        copyRefused(due);
        copyOrder(due);
        copyTaken(due);
        loadRefused(due);
        loadEnds(due);
        judgeRefused(due);
        judgePlaces(due);
        judgeBits(due);
    }

    private static void holdRefused(Due due) {
        Edge.refused(due, "promise 29: a SPOT too small is BEYOND", Due.BEYOND,
                x -> x.hold(-1, 0), x -> x.hold(-1, -1), x -> x.hold(Edge.MIN, 0));
        Edge.refused(due, "promise 29: a SPOT too large is BEYOND", Due.BEYOND,
                x -> x.hold(10, 0), x -> x.hold(10, -1), x -> x.hold(Edge.MAX, 0));
        Edge.refused(due, "promise 29: a number too small is BEYOND", Due.BEYOND, x -> x.hold(4, -2), x -> x.hold(4, Edge.MIN));
        Edge.refused(due, "promise 29: a number too large is BEYOND", Due.BEYOND, x -> x.hold(4, 3), x -> x.hold(4, Edge.MAX));
        Edge.refusedIn(due, "promise 29: of nobody, number 0 is BEYOND", BareThursday::new, Due.BEYOND, x -> x.hold(0, 0));
    }

    private static void holdTaken(Due due) {
        due.test("promise 29: the least and the most SPOT and number");
        BareThursday x = Edge.many();
        due.is("hold(0, 0)", x.hold(0, 0), 1);
        due.is("hold(9, 7)", x.hold(9, 7), 1);
        due.is("as(0, 0)", x.as(0, 0), 0);
        due.is("as(9, 0)", x.as(9, 0), 7);
        due.is("count(7)", x.count(7), 2);
        due.test("promise 29: -1 is nothing, also where there was nothing, and with nobody there");
        due.is("hold(0, -1)", x.hold(0, -1), 1);
        due.is("hold(0, -1)", x.hold(0, -1), 1);
        due.is("count(7)", x.count(7), 1);
        due.is("hold(9, -1) of nobody", new BareThursday().hold(9, -1), 1);
        due.test("promise 29: all ten SPOTS hold the same one");
        for (int spot = 0; spot < 10; spot++) {
            due.is("hold(" + spot + ", 5)", x.hold(spot, 5), 1);
        }
        due.is("count(7)", x.count(7), 10);
        due.test("promise 29: a SPOT holds the one that came latest");
        due.is("hold(3, 6)", x.hold(3, 6), 1);
        due.is("as(3, 0)", x.as(3, 0), 6);
        due.is("as(4, 0)", x.as(4, 0), 5);
    }

    private static void asRefused(Due due) {
        Edge.refused(due, "promise 30: a SPOT too small is BEYOND", Due.BEYOND, x -> x.as(-1, 0), x -> x.as(Edge.MIN, 0));
        Edge.refused(due, "promise 30: a SPOT too large is BEYOND", Due.BEYOND, x -> x.as(10, 0), x -> x.as(Edge.MAX, 0));
        Edge.refused(due, "promise 30: a kind too small is BEYOND", Due.BEYOND, x -> x.as(9, -1), x -> x.as(9, Edge.MIN));
        Edge.refused(due, "promise 30: a kind too large is BEYOND", Due.BEYOND, x -> x.as(9, 7), x -> x.as(9, Edge.MAX));
        Edge.refused(due, "promise 30: a SPOT that holds nothing is MISSING", Due.MISSING, x -> x.as(0, 0), x -> x.as(8, 6));
        Edge.refused(due, "promise 30: one not of that kind, nor of one under it, is KIND", Due.KIND,
                x -> x.as(9, 2), x -> x.as(9, 5), x -> x.as(4, 4), x -> x.as(4, 1));
        Edge.refused(due, "promise 30: BEYOND is asked ahead of MISSING", Due.BEYOND, x -> x.as(0, 7), x -> x.as(0, -1));
        Edge.refused(due, "promise 30: MISSING is asked ahead of KIND", Due.MISSING, x -> x.as(0, 5));
    }

    private static void asUnder(Due due) {
        // By kind: the set of kinds that it is, or is under.
        int[] uppers = {1, 3, 5, 13, 29, 33, 67};
        String[] names = {"PERSON", "NOISE", "AUNT", "LADY", "COLUMBINE", "HARP", "WET"};
        for (int kind = 0; kind < 7; kind++) {
            due.test("promise 30: of which kinds a " + names[kind] + " is");
            BareThursday x = Edge.many();
            x.hold(0, 7);
            x.change(7, 0, kind);
            for (int upper = 0; upper < 7; upper++) {
                due.is("as(0, " + upper + ")", x.as(0, upper), (uppers[kind] >> upper & 1) == 1 ? 7 : Due.KIND);
            }
        }
    }

    private static void sheetRefused(Due due) {
        Edge.refused(due, "promise 31: no such sheet is BEYOND", Due.BEYOND, x -> x.sheet(-1, 8, 1), x -> x.sheet(4, 8, 1),
                x -> x.sheet(Edge.MIN, 8, 1), x -> x.sheet(Edge.MAX, 8, 1), x -> x.sheet(4, 0, 0));
        Edge.refused(due, "promise 31: other bits are BEYOND", Due.BEYOND, x -> x.sheet(0, 1, 1), x -> x.sheet(0, 7, 1),
                x -> x.sheet(0, 9, 1), x -> x.sheet(0, 24, 1), x -> x.sheet(0, 64, 1), x -> x.sheet(0, -8, 1),
                x -> x.sheet(0, Edge.MIN, 1), x -> x.sheet(0, Edge.MAX, 1));
        Edge.refused(due, "promise 31: n below 0 is SIZE", Due.SIZE, x -> x.sheet(0, 8, -1), x -> x.sheet(3, 32, Edge.MIN));
        Edge.refused(due, "promise 31: n below 0 is SIZE also with bits 0", Due.SIZE, x -> x.sheet(0, 0, -1), x -> x.sheet(3, 0, Edge.MIN));
        Edge.refused(due, "promise 31: n above 40 is BEYOND", Due.BEYOND, x -> x.sheet(0, 8, 41), x -> x.sheet(3, 16, Edge.MAX));
        Edge.refused(due, "promise 31: n above 40 is BEYOND also with bits 0", Due.BEYOND, x -> x.sheet(0, 0, 41), x -> x.sheet(3, 0, Edge.MAX));
        Edge.refused(due, "promise 31: no such sheet and other bits are asked ahead of SIZE", Due.BEYOND,
                x -> x.sheet(4, 8, -1), x -> x.sheet(-1, 0, -1), x -> x.sheet(0, 9, -1));
    }

    private static void sheetTaken(Due due) {
        int[] bits = {8, 16, 32};
        for (int b : bits) {
            due.test("promise 31: of " + b + " bits, 40 numbers are the most, all 0");
            BareThursday x = new BareThursday();
            due.is("sheet(0, 40)", x.sheet(0, b, 40), 40);
            due.is("write(0, 39, 1)", x.write(0, 39, 1), 1);
            due.is("write(0, 40, 1)", x.write(0, 40, 1), Due.BEYOND);
            due.test("promise 31: of " + b + " bits, a sheet of no numbers is not MISSING");
            due.is("sheet(1, 0)", x.sheet(1, b, 0), 0);
            due.is("judge(1)", x.judge(1), 0);
            due.is("load(1)", x.load(1), 0);
            due.is("write(1, 0, 0)", x.write(1, 0, 0), Due.BEYOND);
        }
        due.test("promise 31: a sheet that had numbers has 0 again, and as many as told last");
        BareThursday x = Edge.few();
        due.is("sheet(0, 8, 2)", x.sheet(0, 8, 2), 2);
        due.is("load(0)", x.load(0), 2);
        due.is("of(0, 2)", x.of(0, 2), 0);
        due.is("of(1, 2)", x.of(1, 2), 0);
        due.is("sheet(0, 8, 3)", x.sheet(0, 8, 3), 3);
        due.is("load(0)", x.load(0), 3);
        due.is("of(2, 2)", x.of(2, 2), 0);
        due.test("promise 31: with bits 0 it is MISSING, whatever n is, which is told as 0");
        for (int n = 0; n <= 40; n += 20) {
            x.sheet(0, 8, 3);
            due.is("sheet(0, 0, " + n + ")", x.sheet(0, 0, n), 0);
            due.is("load(0)", x.load(0), Due.MISSING);
            due.is("sheet(0, 0, " + n + ")", x.sheet(0, 0, n), 0);
        }
        due.test("promise 31: the least and the most sheet are apart from the others");
        x = Towns.of("harp;harp");
        for (int s = 0; s < 4; s++) {
            x.sheet(s, 32, 40);
        }
        for (int s = 0; s < 4; s++) {
            for (int i = 0; i < 40; i++) {
                x.write(s, i, s + 1);
            }
        }
        for (int s = 3; s >= 0; s--) {
            due.is("load(" + s + ")", x.load(s), 2);
            due.is("of(0, 2)", x.of(0, 2), s + 1);
            due.is("sheet(" + s + ", 0, 0)", x.sheet(s, 0, 0), 0);
        }
    }

    private static void writeRefused(Due due) {
        Edge.refused(due, "promise 32: no such sheet is BEYOND", Due.BEYOND,
                x -> x.write(-1, 0, 9), x -> x.write(4, 0, 9), x -> x.write(Edge.MIN, 0, 9), x -> x.write(Edge.MAX, 0, 9));
        Edge.refused(due, "promise 32: a sheet that is MISSING", Due.MISSING, x -> x.write(3, 0, 9));
        Edge.refused(due, "promise 32: a number too small is BEYOND", Due.BEYOND, x -> x.write(0, -1, 9), x -> x.write(0, Edge.MIN, 9));
        Edge.refused(due, "promise 32: a number too large is BEYOND", Due.BEYOND,
                x -> x.write(0, 3, 9), x -> x.write(1, 2, 9), x -> x.write(0, 40, 9), x -> x.write(0, Edge.MAX, 9));
        Edge.refused(due, "promise 32: MISSING is asked ahead of no such number", Due.MISSING,
                x -> x.write(3, -1, 9), x -> x.write(3, 40, 9));
        Edge.refused(due, "promise 32: no such sheet is asked first", Due.BEYOND, x -> x.write(4, 99, 9), x -> x.write(-1, -1, 9));
    }

    // The first one knows nobody, so a number is 0 if the reader finds no fault; and -1 if any guise fits.
    private static void written(Due due, int bits, int v, int zero, int any) {
        BareThursday x = Towns.of("harp;harp");
        x.change(0, 3, 2);
        x.sheet(0, bits, 1);
        due.is("write(0, 0, " + v + ")", x.write(0, 0, v), 1);
        due.is("of " + bits + " bits " + v + " is 0", x.judge(0) == 0 ? 1 : 0, zero);
        due.is("of " + bits + " bits " + v + " is any", x.fits(0, 0) == 4095 ? 1 : 0, any);
    }

    private static void writeBits(Due due) {
        due.test("promise 32: of 8 bits the lowest eight, with their sign: 255 is -1, 256 is 0");
        written(due, 8, 255, 0, 1);
        written(due, 8, -1, 0, 1);
        written(due, 8, 256, 1, 0);
        written(due, 8, 511, 0, 1);
        written(due, 8, 128, 0, 0);
        written(due, 8, 127, 0, 0);
        written(due, 8, Edge.MIN, 1, 0);
        written(due, 8, Edge.MAX, 0, 1);
        due.test("promise 32: of 16 bits the lowest sixteen, with their sign: 65535 is -1, 65536 is 0");
        written(due, 16, 65535, 0, 1);
        written(due, 16, 65536, 1, 0);
        written(due, 16, 255, 0, 0);
        written(due, 16, 256, 0, 0);
        written(due, 16, 32768, 0, 0);
        written(due, 16, Edge.MIN, 1, 0);
        written(due, 16, Edge.MAX, 0, 1);
        due.test("promise 32: of 32 bits all of them");
        written(due, 32, -1, 0, 1);
        written(due, 32, 65535, 0, 0);
        written(due, 32, 65536, 0, 0);
        written(due, 32, Edge.MIN, 0, 0);
        written(due, 32, Edge.MAX, 0, 0);
        due.test("promise 32: of 8 bits 128 is -128, of 16 bits it is 128");
        BareThursday x = Edge.many();
        x.change(0, 4, 128);
        x.sheet(0, 8, 1);
        x.write(0, 0, 128);
        due.is("judge(0)", x.judge(0), 1);
        x.sheet(0, 16, 1);
        x.write(0, 0, 128);
        due.is("judge(0)", x.judge(0), 0);
        due.test("promise 32: the first and the last number, and none beside it");
        x = Towns.of("harp;harp;harp");
        x.sheet(1, 8, 3);
        due.is("write(1, 0, 5)", x.write(1, 0, 5), 1);
        due.is("write(1, 2, 7)", x.write(1, 2, 7), 1);
        due.is("load(1)", x.load(1), 3);
        due.is("of(0, 2)", x.of(0, 2), 5);
        due.is("of(1, 2)", x.of(1, 2), 0);
        due.is("of(2, 2)", x.of(2, 2), 7);
    }

    private static void copyRefused(Due due) {
        Edge.refused(due, "promise 33: no such sheet, the first, is BEYOND", Due.BEYOND,
                x -> x.copy(-1, 0, 1, 0, 1), x -> x.copy(4, 0, 1, 0, 1), x -> x.copy(Edge.MIN, 0, 1, 0, 1));
        Edge.refused(due, "promise 33: no such sheet, the other one, is BEYOND", Due.BEYOND,
                x -> x.copy(0, 0, -1, 0, 1), x -> x.copy(0, 0, 4, 0, 1), x -> x.copy(0, 0, Edge.MAX, 0, 1));
        Edge.refused(due, "promise 33: one is MISSING, either or both", Due.MISSING,
                x -> x.copy(3, 0, 1, 0, 1), x -> x.copy(0, 0, 3, 0, 1), x -> x.copy(3, 0, 3, 0, 0));
        Edge.refused(due, "promise 33: not of as many bits is KIND", Due.KIND,
                x -> x.copy(0, 0, 2, 0, 1), x -> x.copy(2, 0, 0, 0, 1), x -> x.copy(2, 0, 1, 0, 0));
        Edge.refused(due, "promise 33: the first has not so many: BEYOND", Due.BEYOND,
                x -> x.copy(1, 0, 0, 0, 3), x -> x.copy(1, 1, 0, 0, 2), x -> x.copy(1, 2, 0, 0, 1), x -> x.copy(1, 3, 0, 0, 0));
        Edge.refused(due, "promise 33: the other one has not so many: BEYOND", Due.BEYOND,
                x -> x.copy(0, 0, 1, 0, 3), x -> x.copy(0, 0, 1, 1, 2), x -> x.copy(0, 0, 1, 2, 1), x -> x.copy(0, 0, 1, 3, 0));
        Edge.refused(due, "promise 33: from below 0 is BEYOND", Due.BEYOND,
                x -> x.copy(0, -1, 1, 0, 1), x -> x.copy(0, -1, 1, 0, 0), x -> x.copy(0, Edge.MIN, 1, 0, 1));
        Edge.refused(due, "promise 33: to below 0 is BEYOND", Due.BEYOND,
                x -> x.copy(0, 0, 1, -1, 1), x -> x.copy(0, 0, 1, -1, 0), x -> x.copy(0, 0, 1, Edge.MIN, 1));
        Edge.refused(due, "promise 33: n below 0 is BEYOND", Due.BEYOND,
                x -> x.copy(0, 0, 1, 0, -1), x -> x.copy(0, 2, 1, 2, -1), x -> x.copy(0, 0, 1, 0, Edge.MIN));
        Edge.refused(due, "promise 33: sums that wrap are BEYOND", Due.BEYOND,
                x -> x.copy(0, Edge.MAX, 1, 0, 1), x -> x.copy(0, 0, 1, Edge.MAX, 1), x -> x.copy(0, 1, 1, 1, Edge.MAX),
                x -> x.copy(0, Edge.MAX, 1, Edge.MAX, Edge.MAX), x -> x.copy(0, Edge.MAX, 1, 0, 2));
    }

    private static void copyOrder(Due due) {
        Edge.refused(due, "promise 33: no such sheet is asked ahead of MISSING", Due.BEYOND,
                x -> x.copy(3, 0, 4, 0, 1), x -> x.copy(-1, 0, 3, 0, 1));
        Edge.refused(due, "promise 33: MISSING is asked ahead of KIND and of places", Due.MISSING,
                x -> x.copy(3, 0, 2, 0, 1), x -> x.copy(2, -1, 3, 99, -1));
        Edge.refused(due, "promise 33: KIND is asked ahead of places", Due.KIND,
                x -> x.copy(0, -1, 2, 0, 1), x -> x.copy(2, 0, 0, 0, 99), x -> x.copy(2, 0, 0, 0, -1));
    }

    private static void loaded(Due due, BareThursday x, int s, int... wants) {
        due.is("load(" + s + ")", x.load(s), wants.length);
        for (int p = 0; p < wants.length; p++) {
            due.is("of(" + p + ", 2)", x.of(p, 2), wants[p]);
        }
    }

    private static void copyTaken(Due due) {
        due.test("promise 33: no numbers, at the begin, and at the end");
        BareThursday x = Edge.few();
        due.is("copy(0, 0, 1, 0, 0)", x.copy(0, 0, 1, 0, 0), 0);
        due.is("copy(0, 3, 1, 2, 0)", x.copy(0, 3, 1, 2, 0), 0);
        loaded(due, x, 1, 1, 2);
        loaded(due, x, 0, 5, 6, 7);
        due.test("promise 33: all that there are, and the last ones");
        due.is("copy(1, 0, 0, 1, 2)", x.copy(1, 0, 0, 1, 2), 2);
        loaded(due, x, 0, 5, 1, 2);
        due.is("copy(0, 0, 1, 1, 1)", x.copy(0, 0, 1, 1, 1), 1);
        loaded(due, x, 1, 1, 5);
        due.test("promise 33: to the same sheet, onto themselves, as they all were: onward and back");
        x = Towns.of("harp;harp;harp;harp;harp");
        Towns.row(x, 0, 16, 1, 2, 3, 4, 5);
        due.is("copy(0, 0, 0, 1, 4)", x.copy(0, 0, 0, 1, 4), 4);
        loaded(due, x, 0, 1, 1, 2, 3, 4);
        due.is("copy(0, 1, 0, 0, 4)", x.copy(0, 1, 0, 0, 4), 4);
        loaded(due, x, 0, 1, 2, 3, 4, 4);
        due.is("copy(0, 0, 0, 0, 5)", x.copy(0, 0, 0, 0, 5), 5);
        loaded(due, x, 0, 1, 2, 3, 4, 4);
        due.test("promise 33: forty numbers, the most");
        x = Towns.of("harp;harp;harp");
        x.sheet(0, 32, 40);
        x.sheet(3, 32, 40);
        x.write(0, 0, 9);
        x.write(0, 39, 7);
        due.is("copy(0, 0, 3, 0, 40)", x.copy(0, 0, 3, 0, 40), 40);
        due.is("copy(3, 39, 3, 1, 1)", x.copy(3, 39, 3, 1, 1), 1);
        x.sheet(1, 32, 3);
        due.is("copy(3, 0, 1, 0, 3)", x.copy(3, 0, 1, 0, 3), 3);
        loaded(due, x, 1, 9, 7, 0);
        due.test("promise 33: numbers below 0 come with their sign");
        Towns.row(x, 0, 8, 255);
        Towns.row(x, 1, 8, 0);
        x.copy(0, 0, 1, 0, 1);
        due.is("fits(1, 0)", x.fits(1, 0), 4095);
    }

    private static void loadRefused(Due due) {
        Edge.refused(due, "promise 34: no such sheet is BEYOND", Due.BEYOND,
                x -> x.load(-1), x -> x.load(4), x -> x.load(Edge.MIN), x -> x.load(Edge.MAX));
        Edge.refused(due, "promise 34: a sheet that is MISSING", Due.MISSING, x -> x.load(3));
    }

    private static void loadEnds(Due due) {
        due.test("promise 34: it ends at the first that is above 11, what is behind that comes no more");
        BareThursday x = Towns.of("harp as 9;harp as 9;harp as 9");
        Towns.row(x, 0, 8, 11, 12, 3);
        loaded(due, x, 0, 11);
        due.is("of(1, 2)", x.of(1, 2), 9);
        due.is("of(2, 2)", x.of(2, 2), 9);
        due.test("promise 34: it ends at the first that is below 0");
        Towns.row(x, 0, 8, 0, 255, 3);
        loaded(due, x, 0, 0);
        due.is("of(1, 2)", x.of(1, 2), 9);
        Towns.row(x, 0, 32, Edge.MIN);
        loaded(due, x, 0);
        due.test("promise 34: it ends at the first for which there is nobody");
        Towns.row(x, 0, 32, 1, 2, 3, 4, 5);
        loaded(due, x, 0, 1, 2, 3);
        due.is("with nobody there", loadOfNobody(), 0);
        due.test("promise 34: a sheet of fewer numbers than PEOPLE leaves the others");
        Towns.row(x, 0, 32, 7);
        loaded(due, x, 0, 7);
        due.is("of(1, 2)", x.of(1, 2), 2);
        due.test("promise 34: a sheet of no numbers: 0");
        Towns.row(x, 0, 32);
        loaded(due, x, 0);
        due.is("of(0, 2)", x.of(0, 2), 7);
        due.test("promise 34: all eight, in GUISES 0 and 11, too");
        x = Edge.many();
        Towns.row(x, 1, 8, 11, 0, 11, 0, 1, 10, 5, 6, 7);
        loaded(due, x, 1, 11, 0, 11, 0, 1, 10, 5, 6);
        due.test("promise 34: one that comes to no GUISE by its lowest bits does by these");
        Towns.row(x, 1, 8, 256 + 3, 300);
        loaded(due, x, 1, 3);
    }

    private static int loadOfNobody() {
        BareThursday x = new BareThursday();
        Towns.row(x, 0, 8, 1, 2);
        return x.load(0);
    }

    private static void judgeRefused(Due due) {
        Edge.refused(due, "promise 35: no such sheet is BEYOND", Due.BEYOND,
                x -> x.judge(-1), x -> x.judge(4), x -> x.judge(Edge.MIN), x -> x.judge(Edge.MAX));
        Edge.refused(due, "promise 35: a sheet that is MISSING", Due.MISSING, x -> x.judge(3));
    }

    private static void judged(Due due, BareThursday x, int want, int... numbers) {
        Towns.row(x, 3, 16, numbers);
        due.is("judge(3) of " + java.util.Arrays.toString(numbers), x.judge(3), want);
    }

    private static void judgePlaces(Due due) {
        BareThursday x = Towns.of("harp;harp;harp");
        x.change(0, 4, 6);
        x.change(2, 4, 3);
        due.test("promise 35: all are so: 0");
        judged(due, x, 0, 6, 0, 3);
        due.test("promise 35: the first isn't so: 1");
        judged(due, x, 1, 2, 0, 3);
        judged(due, x, 1, 7, 9, 9);
        due.test("promise 35: the last isn't so: 1 and its place");
        judged(due, x, 3, 6, 0, 2);
        due.test("promise 35: the first of several that aren't so");
        judged(due, x, 2, 6, 1, 2);
        due.test("promise 35: -1 is no set, nor any");
        judged(due, x, 1, -1);
        due.test("promise 35: a sheet of no numbers: 0, also with nobody there");
        judged(due, x, 0);
        judged(due, new BareThursday(), 0);
        due.test("promise 35: fewer numbers than PEOPLE: of the others nothing is told");
        judged(due, x, 0, 6, 0);
        judged(due, x, 0, 6);
        due.test("promise 35: a number for which there is nobody isn't so");
        judged(due, x, 4, 6, 0, 3, 0);
        judged(due, new BareThursday(), 1, 0);
    }

    private static void judgeBits(Due due) {
        due.test("promise 35: of eight, whom number 0 and 7 KNOW");
        BareThursday x = Edge.many();
        x.change(0, 4, 254);
        x.change(7, 4, 127);
        judged(due, x, 0, 254, 0, 0, 0, 0, 0, 0, 127);
        judged(due, x, 8, 254, 0, 0, 0, 0, 0, 0, 126);
        judged(due, x, 9, 254, 0, 0, 0, 0, 0, 0, 127, 0);
        due.test("promise 35: of 8 bits 254 is -2, and isn't so");
        Towns.row(x, 0, 8, 254);
        due.is("judge(0)", x.judge(0), 1);
    }
}
