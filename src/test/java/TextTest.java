/** Promises 26 to 28: the tape and texts. */
final class TextTest {
    private TextTest() {
    }

    static void all(Due due) {
        feed(due);
        feedFull(due);
        wipe(due);
        text(due);
        tokens(due);
        faultsOfOnes(due);
        faultsOfMetAndBell(due);
        faultsOfTokens(due);
        faultChangesNothing(due);
        ninth(due);
    }

    private static void feed(Due due) {
        due.test("promise 26: feed puts the lowest bytes, the highest of these first");
        BareThursday x = new BareThursday();
        due.is("feed(\"!wet\", 3)", x.feed(0x21776574, 3), 3);
        due.is("feed(\"; at\", 1)", x.feed(0x2061743B, 1), 4);
        due.is("feed(\"harp\", 4)", x.feed(0x68617270, 4), 8);
        due.is("feed(\"zz;w\", 2)", x.feed(0x7A7A3B77, 2), 10);
        due.is("feed(\"et\", 2)", x.feed(0x6574, 2), 12);
        due.is("count(5)", x.count(5), 12);
        due.is("text()", x.text(), 3);
        due.is("of(0, 0)", x.of(0, 0), Towns.WET);
        due.is("of(1, 0)", x.of(1, 0), Towns.HARP);
        due.is("of(2, 0)", x.of(2, 0), Towns.WET);
        due.test("promise 26: feed beyond");
        due.is("feed(0, 0)", x.feed(0, 0), Due.BEYOND);
        due.is("feed(0, 5)", x.feed(0, 5), Due.BEYOND);
        due.is("feed(0, -1)", x.feed(0, -1), Due.BEYOND);
        due.is("feed(0, max)", x.feed(0, Integer.MAX_VALUE), Due.BEYOND);
        due.is("count(5)", x.count(5), 0);
    }

    private static void feedFull(Due due) {
        due.test("promise 26: the tape has 120 bytes at most");
        BareThursday x = new BareThursday();
        for (int i = 1; i <= 29; i++) {
            due.is("feed(0, 4)", x.feed(-1, 4), 4 * i);
        }
        due.is("feed(0, 2)", x.feed(0, 2), 118);
        due.is("feed(0, 3)", x.feed(0, 3), Due.FULL);
        due.is("feed(0, 4)", x.feed(0, 4), Due.FULL);
        due.is("count(5)", x.count(5), 118);
        due.is("feed(0, 2)", x.feed(0, 2), 120);
        due.is("feed(0, 1)", x.feed(0, 1), Due.FULL);
        due.is("feed(0, 5)", x.feed(0, 5), Due.BEYOND);
        due.is("count(5)", x.count(5), 120);
        due.is("text()", x.text(), -1);
        due.is("count(5)", x.count(5), 0);
        due.is("feed(0, 1)", x.feed(0, 1), 1);
    }

    private static void wipe(Due due) {
        due.test("promise 27: wipe tells how many bytes there were");
        BareThursday x = new BareThursday();
        due.is("wipe()", x.wipe(), 0);
        Towns.feed(x, "harp;");
        due.is("wipe()", x.wipe(), 5);
        due.is("count(5)", x.count(5), 0);
        due.is("wipe()", x.wipe(), 0);
        due.is("text", Towns.read(x, "wet"), 1);
        due.is("of(0, 0)", x.of(0, 0), Towns.WET);
    }

    private static void text(Due due) {
        due.test("promise 28: all that a text tells is so, item by item");
        BareThursday x = new BareThursday();
        due.is("text", Towns.read(x, "person;noise at 15;aunt as 11;lady at 1 as 2 out;columbine out;harp as 3 out;wet"), 7);
        int[][] wants = {{0, 0, 0, 0}, {1, 15, 0, 0}, {2, 0, 11, 0}, {3, 1, 2, 1}, {4, 0, 0, 1}, {5, 0, 3, 1}, {6, 0, 0, 0}};
        due.is("count(1)", x.count(1), 7);
        due.is("count(5)", x.count(5), 0);
        for (int p = 0; p < 7; p++) {
            for (int i = 0; i < 4; i++) {
                int what = i == 3 ? 5 : i;
                due.is("of(" + p + ", " + what + ")", x.of(p, what), wants[p][i]);
            }
            due.is("of(" + p + ", 3)", x.of(p, 3), 0);
            due.is("of(" + p + ", 4)", x.of(p, 4), 0);
        }
        due.is("text", Towns.read(x, "bell 11;met 0 6;harp at 2;met 7 0;bell 0;bell 2"), 6);
        due.is("now(0)", x.now(0), 13);
        due.is("of(0, 3)", x.of(0, 3), 64 | 128);
        due.is("of(6, 3)", x.of(6, 3), 1);
        due.is("of(7, 3)", x.of(7, 3), 1);
        due.is("of(7, 1)", x.of(7, 1), 2);
        due.is("of(0, 1)", x.of(0, 1), 0);
        due.is("now(1)", x.now(1), 0);
        due.is("now(6)", x.now(6), 0);
        due.is("status(-1)", x.status(-1), 0);
    }

    private static void tokens(Due due) {
        due.test("promise 28: tokens are as long as can be, blanks may stand between");
        BareThursday x = new BareThursday();
        due.is("text", Towns.read(x, "  lady  at015as  0011out  ;wet ;met00 01; bell000000000000000000000000000005 "), 4);
        due.is("of(0, 1)", x.of(0, 1), 15);
        due.is("of(0, 2)", x.of(0, 2), 11);
        due.is("of(0, 5)", x.of(0, 5), 1);
        due.is("of(0, 3)", x.of(0, 3), 2);
        due.is("now(0)", x.now(0), 5);
        due.test("promise 28: what stood behind the end of the tape counts no more");
        x = new BareThursday();
        due.is("text", Towns.read(x, "bell 11;harp;harp"), 3);
        due.is("text", Towns.read(x, "bell 1"), 1);
        due.is("now(0)", x.now(0), 12);
        due.is("text", Towns.read(x, "wet"), 1);
        due.is("text", Towns.read(x, "bell 2"), 1);
        due.is("now(0)", x.now(0), 14);
        due.is("text", Towns.read(x, "harpharp"), -1);
        due.is("text", Towns.read(x, "harp"), 1);
        due.test("promise 28: a text of 120 bytes, to the last one");
        x = new BareThursday();
        due.is("text", Towns.read(x, "wet;harp;" + " ".repeat(104) + "met 0 1"), 3);
        due.is("of(0, 3)", x.of(0, 3), 2);
        due.is("text", Towns.read(x, "bell " + "0".repeat(115)), 1);
        due.is("text", Towns.read(x, "b".repeat(120)), -1);
        due.is("text", Towns.read(x, " ".repeat(120)), -121);
        due.is("text", Towns.read(x, " ".repeat(119) + ";"), -120);
        due.test("promise 28: words run together are another word");
        x = Towns.of("harp;harp");
        due.is("text", Towns.read(x, "harpat 3"), -1);
        due.is("text", Towns.read(x, "harp atas"), -6);
        due.is("text", Towns.read(x, "met 01"), -7);
        due.is("text", Towns.read(x, "met 0 1;met 1 0"), 2);
        due.is("of(0, 3)", x.of(0, 3), 2);
        due.is("of(1, 3)", x.of(1, 3), 1);
    }

    private static void fault(Due due, BareThursday x, String text, int place) {
        due.is("text \"" + text + "\"", Towns.read(x, text), -1 - place);
    }

    private static void faultsOfOnes(Due due) {
        due.test("promise 28: faults of an item that tells a new one");
        BareThursday x = new BareThursday();
        fault(due, x, "", 0);
        fault(due, x, "   ", 3);
        fault(due, x, "harp;", 5);
        fault(due, x, "harp ;  ", 8);
        fault(due, x, ";harp", 0);
        fault(due, x, "harp;;harp", 5);
        fault(due, x, "harp harp", 5);
        fault(due, x, "harp 3", 5);
        fault(due, x, "harp at", 7);
        fault(due, x, "harp at ", 8);
        fault(due, x, "harp at;", 7);
        fault(due, x, "harp at as 3", 8);
        fault(due, x, "harp at 16", 8);
        fault(due, x, "harp at 999", 8);
        fault(due, x, "harp at 1000", 8);
        fault(due, x, "harp at 4294967296", 8);
        fault(due, x, "harp at 3 4", 10);
        fault(due, x, "harp at 3 at 4", 10);
        fault(due, x, "harp as 12", 8);
        fault(due, x, "harp as", 7);
        fault(due, x, "harp as 4 at 3", 10);
        fault(due, x, "harp out at 3", 9);
        fault(due, x, "harp out as 3", 9);
        fault(due, x, "harp out out", 9);
        fault(due, x, "harp out 1", 9);
        fault(due, x, "harps", 0);
        fault(due, x, "har", 0);
        fault(due, x, "harpz", 0);
        fault(due, x, "harpa", 0);
        fault(due, x, "harp;out", 5);
        fault(due, x, "harp outs", 5);
        fault(due, x, "harp;at 3", 5);
        fault(due, x, "harp met", 5);
        due.is("count(1)", x.count(1), 0);
        due.is("status(-1)", x.status(-1), 0);
    }

    private static void faultsOfMetAndBell(Due due) {
        due.test("promise 28: faults of met and bell");
        BareThursday x = new BareThursday();
        fault(due, x, "met", 3);
        fault(due, x, "met 0 1", 4);
        fault(due, x, "wet;met 1 0", 8);
        fault(due, x, "wet;met 0 1", 10);
        fault(due, x, "wet;met 0 0", 10);
        fault(due, x, "wet;met 0 1;wet", 10);
        fault(due, x, "wet;wet;met 0", 13);
        fault(due, x, "wet;wet;met 0;", 13);
        fault(due, x, "wet;wet;met 1 1", 14);
        fault(due, x, "wet;wet;met 1 2", 14);
        fault(due, x, "wet;wet;met 0 1 1", 16);
        fault(due, x, "wet;wet;met 0 wet", 14);
        fault(due, x, "wet;wet;mets 0 1", 8);
        fault(due, x, "bell", 4);
        fault(due, x, "bell;", 4);
        fault(due, x, "bell 12", 5);
        fault(due, x, "bell 1000", 5);
        fault(due, x, "bell 11;", 8);
        fault(due, x, "bell 3 3", 7);
        fault(due, x, "bell at 3", 5);
        fault(due, x, "bells 3", 0);
        due.is("count(1)", x.count(1), 0);
        due.is("now(0)", x.now(0), 0);
    }

    private static void faultsOfTokens(Due due) {
        due.test("promise 28: bytes that begin no token");
        BareThursday x = new BareThursday();
        int[] others = {0, 9, 10, 13, '!', '-', '/', ':', '<', '@', 'A', 'Z', '[', '`', '{', 127, 128, 160, 255};
        for (int b : others) {
            fault(due, x, (char) b + "harp", 0);
            fault(due, x, "harp" + (char) b, 4);
            fault(due, x, "harp at 3" + (char) b + "5", 9);
            fault(due, x, "har" + (char) b + "p", 0);
        }
    }

    private static void faultChangesNothing(Due due) {
        due.test("promise 28: with a fault nothing changes but that the tape is empty");
        BareThursday x = Towns.of("lady at 3;wet as 4;bell 4");
        String before = Towns.all(x);
        fault(due, x, "harp at 4;met 0 1;met 1 2;bell 3;person;met 9 1", 44);
        due.same("all", Towns.all(x), before);
        due.is("count(5)", x.count(5), 0);
        due.is("person(0, 0)", x.person(0, 0), 2);
    }

    private static void ninth(Due due) {
        due.test("promise 28: the word of a ninth one");
        BareThursday x = new BareThursday();
        fault(due, x, "wet;wet;wet;wet;wet;wet;wet;wet;  wet at", 34);
        due.is("count(1)", x.count(1), 0);
        for (int p = 0; p < 7; p++) {
            x.person(p, 0);
        }
        fault(due, x, "met 0 7;wet", 6);
        fault(due, x, "wet;met 0 7;wet", 12);
        due.is("text", Towns.read(x, "wet;met 0 7"), 2);
        fault(due, x, "wet", 0);
        due.is("text", Towns.read(x, "met 7 6"), 1);
        due.is("of(7, 3)", x.of(7, 3), 65);
    }
}
