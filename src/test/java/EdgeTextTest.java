/** Promises 26 to 28, and term 3: each sentence that names a boundary case. */
final class EdgeTextTest {
    private EdgeTextTest() {
    }

    static void all(Due due) {
        feedRefused(due);
        feedTaken(due);
        wipe(due);
        ends(due);
        cells(due);
        guises(due);
        outs(due);
        met(due);
        bell(due);
        bellLimit(due);
        numbers(due);
        blanks(due);
        words(due);
        others(due);
        signs(due);
        ninth(due);
        faults(due);
    }

    private static void feedRefused(Due due) {
        Edge.refused(due, "promise 26: n too small is BEYOND", Due.BEYOND,
                x -> x.feed(65, 0), x -> x.feed(65, -1), x -> x.feed(65, Edge.MIN));
        Edge.refused(due, "promise 26: n too large is BEYOND", Due.BEYOND, x -> x.feed(65, 5), x -> x.feed(65, Edge.MAX));
        Edge.refusedIn(due, "promise 26: a full TAPE is FULL", Edge::many, Due.FULL,
                x -> x.feed(65, 1), x -> x.feed(65, 2), x -> x.feed(65, 3), x -> x.feed(65, 4));
        Edge.refusedIn(due, "promise 26: more bytes than there is room for are FULL, and none comes", () -> tape(118), Due.FULL,
                x -> x.feed(65, 3), x -> x.feed(65, 4));
        Edge.refusedIn(due, "promise 26: BEYOND is asked ahead of FULL", Edge::many, Due.BEYOND,
                x -> x.feed(65, 0), x -> x.feed(65, 5));
    }

    private static BareThursday tape(int length) {
        BareThursday x = new BareThursday();
        for (int i = 0; i < length; i++) {
            x.feed(' ', 1);
        }
        return x;
    }

    private static void feedTaken(Due due) {
        due.test("promise 26: the least and the most n");
        BareThursday x = new BareThursday();
        due.is("feed(65, 1)", x.feed(65, 1), 1);
        due.is("feed(65, 4)", x.feed(65, 4), 5);
        due.test("promise 26: as many bytes as there is room for");
        due.is("feed(65, 4)", tape(116).feed(65, 4), 120);
        due.is("feed(65, 2)", tape(118).feed(65, 2), 120);
        due.is("feed(65, 1)", tape(119).feed(65, 1), 120);
        due.test("promise 26: the lowest bytes of a number, the highest of these first");
        x = new BareThursday();
        x.feed(0x77776574, 3);
        x.feed(0x20203B68, 2);
        x.feed(0x20206172, 2);
        x.feed(0xFFFFFF70, 1);
        due.is("text()", x.text(), 2);
        due.is("of(0, 0)", x.of(0, 0), Towns.WET);
        due.is("of(1, 0)", x.of(1, 0), Towns.HARP);
        due.test("promise 26: bytes of a number below 0");
        x = new BareThursday();
        due.is("feed(-1, 4)", x.feed(-1, 4), 4);
        due.is("feed(min, 4)", x.feed(Edge.MIN, 4), 8);
        due.is("text()", x.text(), -1);
        due.test("promise 26: behind a text there is room again");
        x = tape(120);
        x.text();
        due.is("feed(65, 4)", x.feed(65, 4), 4);
    }

    private static void wipe(Due due) {
        due.test("promise 27: an empty TAPE had 0");
        BareThursday x = new BareThursday();
        due.is("wipe()", x.wipe(), 0);
        due.is("wipe()", x.wipe(), 0);
        due.test("promise 27: a full TAPE had 120, and is empty then");
        x = tape(120);
        due.is("wipe()", x.wipe(), 120);
        due.is("wipe()", x.wipe(), 0);
        due.is("count(5)", x.count(5), 0);
        due.is("feed(65, 4)", x.feed(65, 4), 4);
        due.test("promise 27: nothing else changes");
        x = Edge.few();
        BareThursday y = Edge.few();
        due.is("wipe()", x.wipe(), 8);
        due.is("text()", y.text(), -9);
        due.same("all", Edge.seen(x), Edge.seen(y));
    }

    private static void fault(Due due, String text, int place) {
        fault(due, new BareThursday(), text, place);
    }

    private static void fault(Due due, BareThursday x, String text, int place) {
        due.is("text \"" + text + "\"", Towns.read(x, text), -1 - place);
        due.is("then count(1)", x.count(1), 0);
        due.is("then count(5)", x.count(5), 0);
    }

    private static BareThursday read(Due due, String text, int items) {
        BareThursday x = new BareThursday();
        due.is("text \"" + text + "\"", Towns.read(x, text), items);
        due.is("then count(5)", x.count(5), 0);
        return x;
    }

    private static void ends(Due due) {
        due.test("promise 28: an empty TAPE ends too early: 0 bytes");
        fault(due, "", 0);
        due.test("promise 28: blanks alone end too early: as many bytes as there are, 120, too");
        fault(due, " ", 1);
        fault(due, " ".repeat(120), 120);
        due.test("promise 28: it ends too early behind a ;");
        fault(due, "harp;", 5);
        fault(due, "harp;  ", 7);
        due.test("promise 28: it ends too early behind at");
        fault(due, "harp at", 7);
        fault(due, "harp at ", 8);
        due.test("promise 28: it ends too early behind as");
        fault(due, "harp as", 7);
        fault(due, "harp at 3 as", 12);
        due.test("promise 28: it ends too early behind met, or its first NUMBER");
        fault(due, "harp;harp;met", 13);
        fault(due, "harp;harp;met 0", 15);
        fault(due, "harp;harp;met 0 ", 16);
        due.test("promise 28: it ends too early behind bell");
        fault(due, "bell", 4);
        fault(due, "bell ", 5);
        due.test("promise 28: a TEXT of 120 bytes to its end, and one that ends too early there");
        read(due, "harp" + " ".repeat(116), 1);
        read(due, " ".repeat(116) + "harp", 1);
        fault(due, " ".repeat(115) + "harp;", 120);
        due.test("promise 28: the most ITEMS on one TAPE");
        BareThursday x = read(due, "wet;wet;wet;wet;wet;wet;wet;wet" + ";met 0 1".repeat(11), 19);
        due.is("count(1)", x.count(1), 8);
    }

    private static void cells(Due due) {
        due.test("promise 28: without at the CELL is 0");
        due.is("of(0, 1)", read(due, "harp as 3 out", 1).of(0, 1), 0);
        due.test("promise 28: CELLS 0 and 15, the least and the most");
        BareThursday x = read(due, "harp at 0;harp at 15", 2);
        due.is("of(0, 1)", x.of(0, 1), 0);
        due.is("of(1, 1)", x.of(1, 1), 15);
        due.test("promise 28: a CELL too large is a FAULT at its NUMBER");
        fault(due, "harp at 16", 8);
        fault(due, "harp at   999", 10);
        due.test("promise 28: no NUMBER behind at is a FAULT there");
        fault(due, "harp at;", 7);
        fault(due, "harp at as 3", 8);
        fault(due, "harp at out", 8);
        fault(due, "harp at -1", 8);
        due.test("promise 28: at twice is a FAULT");
        fault(due, "harp at 3 at 3", 10);
        due.test("promise 28: a NUMBER without at is a FAULT");
        fault(due, "harp 3", 5);
        fault(due, "harp at 3 3", 10);
    }

    private static void guises(Due due) {
        due.test("promise 28: without as the GUISE is 0");
        due.is("of(0, 2)", read(due, "harp at 3 out", 1).of(0, 2), 0);
        due.test("promise 28: GUISES 0 and 11, the least and the most");
        BareThursday x = read(due, "harp as 0;harp as 11", 2);
        due.is("of(0, 2)", x.of(0, 2), 0);
        due.is("of(1, 2)", x.of(1, 2), 11);
        due.test("promise 28: a GUISE too large is a FAULT at its NUMBER");
        fault(due, "harp as 12", 8);
        fault(due, "harp at 15 as 999", 14);
        due.test("promise 28: no NUMBER behind as is a FAULT there");
        fault(due, "harp as;", 7);
        fault(due, "harp as out", 8);
        due.test("promise 28: as twice, or ahead of at, is a FAULT");
        fault(due, "harp as 3 as 3", 10);
        fault(due, "harp as 3 at 3", 10);
    }

    private static void outs(Due due) {
        due.test("promise 28: without out one is not OUT");
        BareThursday x = read(due, "harp;harp out;harp at 3 as 3 out;harp at 3 as 3", 4);
        due.is("of(0, 5)", x.of(0, 5), 0);
        due.is("of(1, 5)", x.of(1, 5), 1);
        due.is("of(2, 5)", x.of(2, 5), 1);
        due.is("of(3, 5)", x.of(3, 5), 0);
        due.test("promise 28: out twice, or ahead of at or as, is a FAULT");
        fault(due, "harp out out", 9);
        fault(due, "harp out at 3", 9);
        fault(due, "harp out as 3", 9);
        due.test("promise 28: a new one MET and KNOWS nobody and was PASSED never");
        x = read(due, "lady;wet at 15 as 11 out", 2);
        int[] whats = {3, 4, 6};
        for (int what : whats) {
            due.is("of(0, " + what + ")", x.of(0, what), 0);
            due.is("of(1, " + what + ")", x.of(1, what), 0);
        }
    }

    private static void met(Due due) {
        due.test("promise 28: met: one who is not there is a FAULT at its NUMBER");
        fault(due, "met 0 1", 4);
        fault(due, "harp;met 0 1", 11);
        fault(due, "harp;met 1 0", 9);
        fault(due, "harp;harp;met 2 0", 14);
        fault(due, "harp;harp;met 0 2", 16);
        due.test("promise 28: met: one who comes only later isn't there already");
        fault(due, "harp;met 0 1;harp", 11);
        due.test("promise 28: met: the same one is a FAULT at the second NUMBER");
        fault(due, "harp;met 0 0", 11);
        fault(due, "harp;harp;met 1 1", 16);
        due.test("promise 28: met: a third NUMBER is a FAULT");
        fault(due, "harp;harp;met 0 1 0", 18);
        due.test("promise 28: met: no NUMBER is a FAULT");
        fault(due, "harp;harp;met;", 13);
        fault(due, "harp;harp;met 0;", 15);
        fault(due, "harp;harp;met at 0", 14);
        due.test("promise 28: met: each MET the other one, who were there ahead of the TEXT, too");
        BareThursday x = Towns.of("harp;harp;harp;harp;harp;harp;harp");
        due.is("text", Towns.read(x, "harp;met 7 0;met 2 1"), 3);
        due.is("of(0, 3)", x.of(0, 3), 128);
        due.is("of(7, 3)", x.of(7, 3), 1);
        due.is("of(1, 3)", x.of(1, 3), 4);
        due.is("of(2, 3)", x.of(2, 3), 2);
        due.test("promise 28: met: those who MET already stay so, with all whom else they MET");
        due.is("text", Towns.read(x, "met 0 7;met 0 1"), 2);
        due.is("of(0, 3)", x.of(0, 3), 130);
        due.is("of(1, 3)", x.of(1, 3), 5);
        due.is("of(7, 3)", x.of(7, 3), 1);
        due.test("promise 28: met, where nobody KNOWS anybody by that");
        due.is("now(2)", x.now(2), 0);
    }

    private static void bell(Due due) {
        due.test("promise 28: bell 0 and 11, the least and the most");
        due.is("now(0)", read(due, "bell 0", 1).now(0), 0);
        due.is("now(0)", read(due, "bell 11", 1).now(0), 11);
        due.is("now(0)", read(due, "bell 11;bell 11;bell 1", 3).now(0), 23);
        due.test("promise 28: bell too large is a FAULT at its NUMBER");
        fault(due, "bell 12", 5);
        fault(due, "bell 999", 5);
        due.test("promise 28: bell without a NUMBER, or with two, is a FAULT");
        fault(due, "bell;", 4);
        fault(due, "bell harp", 5);
        fault(due, "bell 1 1", 7);
        due.test("promise 28: bell, without anything else: nobody walks, meets, or comes to know");
        BareThursday x = read(due, "wet;wet;person at 3 as 3;met 0 1;bell 11;bell 1", 6);
        due.is("now(0)", x.now(0), 12);
        due.is("now(1)", x.now(1), 0);
        due.is("of(0, 1)", x.of(0, 1), 0);
        due.is("of(0, 2)", x.of(0, 2), 0);
        due.is("of(2, 1)", x.of(2, 1), 3);
        due.is("of(2, 3)", x.of(2, 3), 0);
        due.is("of(0, 4)", x.of(0, 4), 0);
    }

    // More than the 512 calls of the document.
    private static void bellLimit(Due due) {
        due.test("promise 28: bell: DAY is 99999 at most");
        BareThursday x = Edge.old(11);
        due.is("text", Towns.read(x, "bell 10"), 1);
        due.is("now(0)", x.now(0), 99998);
        due.is("text", Towns.read(x, "bell 1"), 1);
        due.is("now(0)", x.now(0), 99999);
        due.is("text", Towns.read(x, "bell 11;bell 0"), 2);
        due.is("now(0)", x.now(0), 99999);
        x = Edge.old(5);
        due.is("text", Towns.read(x, "bell 6"), 1);
        due.is("now(0)", x.now(0), 99999);
    }

    private static void numbers(Due due) {
        due.test("promise 28: a NUMBER is as long as can be");
        fault(due, "harp at 115", 8);
        BareThursday x = read(due, "harp at15as11out", 1);
        due.is("of(0, 1)", x.of(0, 1), 15);
        due.is("of(0, 2)", x.of(0, 2), 11);
        due.test("promise 28: a NUMBER above 999 is a FAULT at its first digit");
        fault(due, "harp at 1000", 8);
        fault(due, "bell 4294967296", 5);
        fault(due, "bell 2147483648", 5);
        fault(due, "bell 18446744073709551616", 5);
        fault(due, "bell " + "9".repeat(115), 5);
        due.test("promise 28: zeros ahead are digits of a NUMBER");
        due.is("now(0)", read(due, "bell 0007", 1).now(0), 7);
        due.is("now(0)", read(due, "bell " + "0".repeat(113) + "11", 1).now(0), 11);
        fault(due, "bell " + "0".repeat(113) + "12", 5);
        due.test("promise 28: a NUMBER where an ITEM should begin is a FAULT");
        fault(due, "0", 0);
        fault(due, "harp;0", 5);
    }

    private static void blanks(Due due) {
        due.test("promise 28: blanks may stand between TOKENS, ahead of them and behind");
        read(due, "  harp   at  3  as  4   out  ;  harp  ", 2);
        due.test("promise 28: no blank need stand between TOKENS of two sorts");
        read(due, "harp at3as4out;harp;met0 1;bell3", 4);
        due.test("promise 28: a blank ends a WORD and a NUMBER");
        fault(due, "ha rp", 0);
        fault(due, "bell 1 1", 7);
        fault(due, "harp at 1 5", 10);
        due.test("promise 28: without a blank two WORDS are another WORD, two NUMBERS one");
        fault(due, "harpat 3", 0);
        fault(due, "harpout", 0);
        fault(due, "harp atout", 5);
        fault(due, "harp;harp;met 01", 16);
    }

    private static void words(Due due) {
        due.test("promise 28: another WORD is a FAULT at its first letter");
        fault(due, "man", 0);
        fault(due, "harp;man", 5);
        fault(due, "harp man", 5);
        fault(due, "  man", 2);
        due.test("promise 28: a WORD too long or too short is another one");
        String[] known = {"person", "noise", "aunt", "lady", "columbine", "harp", "wet", "bell"};
        for (String word : known) {
            fault(due, word + "s", 0);
            fault(due, word.substring(0, word.length() - 1), 0);
            fault(due, "a" + word, 0);
            fault(due, word.substring(1), 0);
        }
        fault(due, "harp a 3", 5);
        fault(due, "harp att 3", 5);
        fault(due, "harp ass 3", 5);
        fault(due, "harp ou", 5);
        fault(due, "harp;me 0 0", 5);
        due.test("promise 28: a WORD that may stand elsewhere is a FAULT");
        fault(due, "at 3", 0);
        fault(due, "as 3", 0);
        fault(due, "out", 0);
        fault(due, "harp harp", 5);
        fault(due, "harp met", 5);
        fault(due, "harp bell", 5);
        fault(due, "bell 1 harp", 7);
        due.test("promise 28: letters A to Z are none of a WORD");
        fault(due, "Harp", 0);
        fault(due, "harP", 0);
        fault(due, "harp at 3 Out", 10);
    }

    private static void others(Due due) {
        due.test("promise 28: a byte that begins no TOKEN is a FAULT at its place, if all ahead of it may stand");
        int[] bytes = {0, 1, 9, 10, 13, 31, '!', '/', ':', '<', '@', 'A', 'Z', '[', '`', '{', 127, 128, 160, 254, 255};
        for (int b : bytes) {
            String sign = String.valueOf((char) b);
            fault(due, sign, 0);
            fault(due, "harp" + sign, 4);
            fault(due, "harp;" + sign, 5);
            fault(due, "harp at 3" + sign, 9);
            fault(due, "harp at " + sign + "3", 8);
        }
        due.test("promise 28: such a byte behind a WORD that can't stand is not the first FAULT");
        fault(due, "man!", 0);
        fault(due, "harp at 16!", 8);
        due.test("promise 28: a and z are letters, the first and the last: they go on with a WORD");
        due.is("of(0, 0)", read(due, "aunt", 1).of(0, 0), Towns.AUNT);
        fault(due, "harpa", 0);
        fault(due, "harpz", 0);
        fault(due, "harp z", 5);
        due.test("promise 28: 0 and 9 are digits, the first and the last: they go on with a NUMBER");
        due.is("of(0, 1)", read(due, "aunt at 09", 1).of(0, 1), 9);
        due.is("of(0, 1)", read(due, "aunt at 10", 1).of(0, 1), 10);
        fault(due, "aunt at 19", 8);
        fault(due, "aunt at 90", 8);
    }

    private static void signs(Due due) {
        due.test("promise 28: ; ahead of all, or twice, is a FAULT");
        fault(due, ";", 0);
        fault(due, ";harp", 0);
        fault(due, "harp;;harp", 5);
        fault(due, "harp ; ; harp", 7);
        due.test("promise 28: no ; between ITEMS is a FAULT");
        fault(due, "harp lady", 5);
        fault(due, "bell 1 bell 1", 7);
    }

    private static void ninth(Due due) {
        String eight = "wet;wet;wet;wet;wet;wet;wet;wet";
        due.test("promise 28: an eighth one may come");
        due.is("count(1)", read(due, eight, 8).count(1), 8);
        due.test("promise 28: the WORD of a ninth one is the FAULT, whatever stands behind it");
        fault(due, eight + ";wet", 32);
        fault(due, eight + ";  harp at 16", 34);
        fault(due, eight + ";lady!", 32);
        due.test("promise 28: a ninth one counts those who were there ahead of the TEXT");
        BareThursday x = Towns.of("wet;wet;wet;wet;wet;wet;wet");
        due.is("text", Towns.read(x, "wet;wet"), -1 - 4);
        due.is("count(1)", x.count(1), 7);
        due.is("text", Towns.read(x, "wet"), 1);
        due.is("text", Towns.read(x, " wet"), -1 - 1);
        due.is("count(1)", x.count(1), 8);
        due.test("promise 28: with eight there met and bell may still be told");
        due.is("text", Towns.read(x, "met 0 7;bell 3"), 2);
    }

    private static void faults(Due due) {
        due.test("promise 28: with a FAULT nothing changes but that THE TAPE is empty: no finding");
        BareThursday x = Edge.few();
        BareThursday untouched = Edge.few();
        x.wipe();
        untouched.wipe();
        due.is("text", Towns.read(x, "harp at 4 as 3 out;met 0 2;bell 3;lady at 16"), -1 - 42);
        for (int which = -1; which <= 6; which++) {
            due.is("status(" + which + ")", x.status(which), untouched.status(which));
        }
        due.is("count(5)", x.count(5), 0);
        due.same("all", Edge.seen(x), Edge.seen(untouched));
        due.test("promise 28: what a TEXT tells leaves all else as it was");
        x = Edge.few();
        x.wipe();
        due.is("text", Towns.read(x, "harp at 4"), 1);
        untouched = Edge.few();
        untouched.wipe();
        untouched.person(Towns.HARP, 4);
        due.same("all", Edge.seen(x), Edge.seen(untouched));
    }
}
