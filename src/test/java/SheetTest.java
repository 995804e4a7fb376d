/** Promises 29 to 35: spots and sheets. */
final class SheetTest {
    private SheetTest() {
    }

    static void all(Due due) {
        hold(due);
        as(due);
        asUnder(due);
        sheet(due);
        sheetFindings(due);
        write(due);
        writeFindings(due);
        copy(due);
        copyFindings(due);
        load(due);
        judge(due);
        judgeSigns(due);
    }

    private static void hold(Due due) {
        due.test("promise 29: a spot holds one, or nothing");
        BareThursday x = Towns.of("harp;wet");
        due.is("hold(0, 1)", x.hold(0, 1), 1);
        due.is("hold(9, 0)", x.hold(9, 0), 1);
        due.is("as(0, 6)", x.as(0, 6), 1);
        due.is("as(9, 5)", x.as(9, 5), 0);
        due.is("count(7)", x.count(7), 2);
        due.is("hold(0, -1)", x.hold(0, -1), 1);
        due.is("as(0, 6)", x.as(0, 6), Due.MISSING);
        due.is("hold(5, -1)", x.hold(5, -1), 1);
        due.is("count(7)", x.count(7), 1);
        due.test("promise 29: hold beyond");
        due.is("hold(10, 0)", x.hold(10, 0), Due.BEYOND);
        due.is("hold(-1, 0)", x.hold(-1, 0), Due.BEYOND);
        due.is("hold(9, 2)", x.hold(9, 2), Due.BEYOND);
        due.is("hold(9, -2)", x.hold(9, -2), Due.BEYOND);
        due.is("hold(10, -1)", x.hold(10, -1), Due.BEYOND);
        due.is("as(9, 5)", x.as(9, 5), 0);
    }

    private static void as(Due due) {
        due.test("promise 30: as: beyond, missing, kind, in this order");
        BareThursday x = Towns.of("aunt");
        due.is("as(10, 0)", x.as(10, 0), Due.BEYOND);
        due.is("as(-1, 0)", x.as(-1, 0), Due.BEYOND);
        due.is("as(3, 7)", x.as(3, 7), Due.BEYOND);
        due.is("as(3, -1)", x.as(3, -1), Due.BEYOND);
        due.is("as(3, 1)", x.as(3, 1), Due.MISSING);
        x.hold(3, 0);
        due.is("as(3, 1)", x.as(3, 1), Due.KIND);
        due.is("as(3, 2)", x.as(3, 2), 0);
        due.is("as(3, 7)", x.as(3, 7), Due.BEYOND);
        due.is("as(4, 2)", x.as(4, 2), Due.MISSING);
        due.test("promise 30: the kind it is of now");
        x.change(0, 0, 1);
        due.is("as(3, 1)", x.as(3, 1), 0);
        due.is("as(3, 2)", x.as(3, 2), Due.KIND);
    }

    private static void asUnder(Due due) {
        due.test("promise 30: which kinds are under which");
        // By kind, the set of those it counts as.
        int[] counts = {1, 1 | 2, 1 | 4, 1 | 4 | 8, 1 | 4 | 8 | 16, 1 | 32, 1 | 2 | 64};
        BareThursday x = Towns.of("harp;harp;harp");
        x.hold(1, 2);
        for (int kind = 0; kind < 7; kind++) {
            x.change(2, 0, kind);
            for (int upper = 0; upper < 7; upper++) {
                due.is("kind " + kind + ", as(1, " + upper + ")", x.as(1, upper),
                        (counts[kind] >> upper & 1) == 1 ? 2 : Due.KIND);
            }
        }
    }

    private static void sheet(Due due) {
        due.test("promise 31: a sheet has so many numbers, all 0");
        BareThursday x = Towns.of("harp as 3;harp as 4;harp as 5");
        int[] bits = {8, 16, 32};
        for (int s = 0; s < 4; s++) {
            for (int b : bits) {
                due.is("sheet(" + s + ", " + b + ", 40)", x.sheet(s, b, 40), 40);
                due.is("write(" + s + ", 39, 1)", x.write(s, 39, 1), 1);
                due.is("write(" + s + ", 0, 1)", x.write(s, 0, 1), 1);
                due.is("sheet(" + s + ", " + b + ", 2)", x.sheet(s, b, 2), 2);
                due.is("write(" + s + ", 2, 1)", x.write(s, 2, 1), Due.BEYOND);
                due.is("judge(" + s + ")", x.judge(s), 0);
                due.is("sheet(" + s + ", " + b + ", 0)", x.sheet(s, b, 0), 0);
                due.is("judge(" + s + ")", x.judge(s), 0);
            }
            due.is("sheet(" + s + ", 0, 7)", x.sheet(s, 0, 7), 0);
            due.is("judge(" + s + ")", x.judge(s), Due.MISSING);
            due.is("write(" + s + ", 0, 0)", x.write(s, 0, 0), Due.MISSING);
        }
    }

    private static void sheetFindings(Due due) {
        due.test("promise 31: sheet: beyond, size, beyond; then nothing changes");
        BareThursday x = Towns.of("harp");
        Towns.row(x, 3, 8, 7);
        int[][] calls = {{4, 8, 1}, {-1, 8, 1}, {3, 7, 1}, {3, 64, 1}, {3, -8, 1}, {3, 8, -1}, {3, 0, -1},
            {3, 8, 41}, {3, 0, 41}, {4, 8, -1}, {3, 9, -1}, {3, 8, Integer.MIN_VALUE}, {3, 8, Integer.MAX_VALUE}};
        int[] wants = {Due.BEYOND, Due.BEYOND, Due.BEYOND, Due.BEYOND, Due.BEYOND, Due.SIZE, Due.SIZE,
            Due.BEYOND, Due.BEYOND, Due.BEYOND, Due.BEYOND, Due.SIZE, Due.BEYOND};
        for (int i = 0; i < calls.length; i++) {
            int[] c = calls[i];
            due.is("sheet(" + c[0] + ", " + c[1] + ", " + c[2] + ")", x.sheet(c[0], c[1], c[2]), wants[i]);
        }
        due.is("load(3)", x.load(3), 1);
        due.is("of(0, 2)", x.of(0, 2), 7);
    }

    private static void write(Due due) {
        due.test("promise 32: a number becomes the lowest bits, with their sign");
        BareThursday x = Towns.of("harp;harp;harp;harp;harp;harp;harp;harp");
        x.change(0, 4, 128);
        x.change(1, 4, 5);
        judged(due, x, 8, 128, 5, 1);
        judged(due, x, 16, 128, 5, 0);
        judged(due, x, 32, 128, 5, 0);
        judged(due, x, 8, 128 + 256, 5, 1);
        judged(due, x, 16, 128 + 65536, 5 - 65536, 0);
        judged(due, x, 16, 128, 5 + 32768, 2);
        judged(due, x, 32, 128 + 65536, 5, 1);
        judged(due, x, 32, 128, 5 + 65536, 2);
        x.change(0, 4, 0);
        judged(due, x, 8, 256, 5 + 512, 0);
        judged(due, x, 8, 256, 5 + 128, 2);
        judged(due, x, 16, 256, 5, 1);
        judged(due, x, 8, Integer.MIN_VALUE, 5, 0);
        judged(due, x, 32, Integer.MIN_VALUE, 5, 1);
    }

    private static void judged(Due due, BareThursday x, int bits, int first, int second, int want) {
        x.sheet(2, bits, 2);
        due.is("write(2, 0, " + first + ")", x.write(2, 0, first), 1);
        due.is("write(2, 1, " + second + ")", x.write(2, 1, second), 1);
        due.is("of " + bits + " bits, judge(2)", x.judge(2), want);
    }

    private static void writeFindings(Due due) {
        due.test("promise 32: write: beyond, missing, beyond");
        BareThursday x = new BareThursday();
        x.sheet(1, 8, 3);
        due.is("write(4, 0, 0)", x.write(4, 0, 0), Due.BEYOND);
        due.is("write(-1, 0, 0)", x.write(-1, 0, 0), Due.BEYOND);
        due.is("write(0, 0, 0)", x.write(0, 0, 0), Due.MISSING);
        due.is("write(0, -1, 0)", x.write(0, -1, 0), Due.MISSING);
        due.is("write(1, 3, 0)", x.write(1, 3, 0), Due.BEYOND);
        due.is("write(1, -1, 0)", x.write(1, -1, 0), Due.BEYOND);
        due.is("write(1, max, 0)", x.write(1, Integer.MAX_VALUE, 0), Due.BEYOND);
        due.is("write(1, 2, 0)", x.write(1, 2, 0), 1);
    }

    private static void guises(Due due, BareThursday x, int s, int... wants) {
        due.is("load(" + s + ")", x.load(s), wants.length);
        for (int p = 0; p < wants.length; p++) {
            due.is("of(" + p + ", 2)", x.of(p, 2), wants[p]);
        }
    }

    private static void copy(Due due) {
        due.test("promise 33: numbers come to another sheet, or the same one, as they all were");
        BareThursday x = Towns.of("harp;harp;harp;harp;harp;harp");
        Towns.row(x, 0, 8, 1, 2, 3, 4, 5, 6);
        Towns.row(x, 1, 8, 7, 7, 7, 7, 7, 7);
        due.is("copy(0, 1, 1, 3, 3)", x.copy(0, 1, 1, 3, 3), 3);
        guises(due, x, 1, 7, 7, 7, 2, 3, 4);
        guises(due, x, 0, 1, 2, 3, 4, 5, 6);
        due.is("copy(0, 0, 0, 2, 4)", x.copy(0, 0, 0, 2, 4), 4);
        guises(due, x, 0, 1, 2, 1, 2, 3, 4);
        due.is("copy(0, 1, 0, 0, 5)", x.copy(0, 1, 0, 0, 5), 5);
        guises(due, x, 0, 2, 1, 2, 3, 4, 4);
        due.is("copy(0, 0, 1, 0, 6)", x.copy(0, 0, 1, 0, 6), 6);
        guises(due, x, 1, 2, 1, 2, 3, 4, 4);
        due.is("copy(0, 6, 1, 6, 0)", x.copy(0, 6, 1, 6, 0), 0);
        guises(due, x, 1, 2, 1, 2, 3, 4, 4);
    }

    private static void copyFindings(Due due) {
        due.test("promise 33: copy: beyond, missing, kind, beyond; then nothing changes");
        BareThursday x = Towns.of("harp;harp;harp");
        Towns.row(x, 0, 8, 1, 2, 3);
        Towns.row(x, 1, 8, 4, 5);
        x.sheet(2, 16, 40);
        int[][] beyonds = {{4, 0, 0, 0, 1}, {-1, 0, 0, 0, 1}, {0, 0, 4, 0, 1}, {0, 0, -1, 0, 1}, {3, 0, 4, 0, 1}, {4, 0, 3, 0, 1},
            {0, -1, 1, 0, 1}, {0, 0, 1, -1, 1}, {0, 0, 1, 0, -1}, {0, 0, 1, 0, 3}, {1, 0, 0, 0, 3}, {0, 3, 1, 0, 1},
            {0, 0, 1, 2, 1}, {0, 2, 1, 0, 2}, {0, 4, 1, 0, 0}, {0, 0, 1, 3, 0},
            {0, Integer.MAX_VALUE, 1, 0, 1}, {0, 0, 1, Integer.MAX_VALUE, 2}, {0, 1, 1, 0, Integer.MAX_VALUE},
            {0, Integer.MAX_VALUE, 1, 0, Integer.MAX_VALUE}, {0, Integer.MIN_VALUE, 1, 0, 1}, {0, 0, 1, 0, Integer.MIN_VALUE}};
        for (int[] c : beyonds) {
            copyAnswers(due, x, c, Due.BEYOND);
        }
        int[][] missings = {{3, 0, 0, 0, 1}, {0, 0, 3, 0, 1}, {3, 0, 3, 0, 0}, {3, -1, 2, 0, 1}, {2, 0, 3, 99, 1}};
        for (int[] c : missings) {
            copyAnswers(due, x, c, Due.MISSING);
        }
        int[][] kinds = {{0, 0, 2, 0, 1}, {2, 0, 0, 0, 1}, {2, -1, 0, 0, 99}, {0, 0, 2, 0, 0}};
        for (int[] c : kinds) {
            copyAnswers(due, x, c, Due.KIND);
        }
        guises(due, x, 0, 1, 2, 3);
        guises(due, x, 1, 4, 5);
    }

    private static void copyAnswers(Due due, BareThursday x, int[] c, int want) {
        due.is("copy(" + c[0] + ", " + c[1] + ", " + c[2] + ", " + c[3] + ", " + c[4] + ")",
                x.copy(c[0], c[1], c[2], c[3], c[4]), want);
    }

    private static void load(Due due) {
        due.test("promise 34: numbers become guises, to the first that is none, or that nobody can wear");
        BareThursday x = Towns.of("harp;harp;harp;harp");
        Towns.row(x, 0, 8, 11, 0, 12, 3);
        guises(due, x, 0, 11, 0);
        due.is("of(2, 2)", x.of(2, 2), 0);
        due.is("of(3, 2)", x.of(3, 2), 0);
        Towns.row(x, 0, 16, 1, 2, 3, 4, 5, 6);
        guises(due, x, 0, 1, 2, 3, 4);
        Towns.row(x, 0, 32, 9, 8, -1, 4);
        guises(due, x, 0, 9, 8);
        due.is("of(2, 2)", x.of(2, 2), 3);
        Towns.row(x, 0, 32);
        due.is("load(0)", x.load(0), 0);
        Towns.row(x, 0, 32, 256);
        due.is("load(0)", x.load(0), 0);
        Towns.row(x, 0, 8, 256 + 7);
        guises(due, x, 0, 7);
        due.is("load(0) for nobody", loadForNobody(), 0);
        due.test("promise 34: load: beyond, missing");
        due.is("load(4)", x.load(4), Due.BEYOND);
        due.is("load(-1)", x.load(-1), Due.BEYOND);
        due.is("load(1)", x.load(1), Due.MISSING);
    }

    private static int loadForNobody() {
        BareThursday x = new BareThursday();
        Towns.row(x, 0, 8, 1, 2);
        return x.load(0);
    }

    private static void judge(Due due) {
        due.test("promise 35: the reader tells the first number that isn't so");
        BareThursday x = Towns.of("harp;harp;harp");
        x.change(0, 4, 6);
        x.change(2, 4, 1);
        judgedRow(due, x, 0, 6, 0, 1);
        judgedRow(due, x, 1, 5, 1, 1);
        judgedRow(due, x, 2, 6, 1, 0);
        judgedRow(due, x, 3, 6, 0, 0);
        judgedRow(due, x, 0, 6, 0);
        judgedRow(due, x, 0);
        judgedRow(due, x, 4, 6, 0, 1, 0);
        judgedRow(due, x, 4, 6, 0, 1, 1, 0);
        due.test("promise 35: judge: beyond, missing");
        due.is("judge(4)", x.judge(4), Due.BEYOND);
        due.is("judge(-1)", x.judge(-1), Due.BEYOND);
        due.is("judge(3)", x.judge(3), Due.MISSING);
    }

    private static void judgedRow(Due due, BareThursday x, int want, int... numbers) {
        Towns.row(x, 1, 16, numbers);
        due.is("judge(1)", x.judge(1), want);
    }

    private static void judgeSigns(Due due) {
        due.test("promise 35: a number told with its sign is no set of 8 bits");
        BareThursday x = Towns.of("harp;harp;harp;harp;harp;harp;harp;harp");
        x.change(0, 4, 254);
        Towns.row(x, 0, 8, 254);
        due.is("judge(0)", x.judge(0), 1);
        Towns.row(x, 0, 16, 254);
        due.is("judge(0)", x.judge(0), 0);
    }
}
