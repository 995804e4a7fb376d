/** Promises 16 to 22: each sentence that names a boundary case. */
final class EdgeStandTest {
    private EdgeStandTest() {
    }

    static void all(Due due) {
        refused(due);
        noDays(due);
        standFor(due);
        guiseFor(due);
        kindFor(due);
        darkRefused(due);
        darkDays(due);
        darkSets(due);
        circleRefused(due);
        circleSets(due);
        toldRefused(due);
        toldEmpty(due);
        toldLength(due);
        toldSigns(due);
        changesNothing(due);
    }

    private static void refused(Due due) {
        Edge.refused(due, "promise 16: a number too small is BEYOND", Due.BEYOND, x -> x.standFor(-1, 5), x -> x.standFor(Edge.MIN, 5));
        Edge.refused(due, "promise 16: a number too large is BEYOND", Due.BEYOND, x -> x.standFor(3, 5), x -> x.standFor(Edge.MAX, 5));
        Edge.refused(due, "promise 16: n too small is BEYOND", Due.BEYOND, x -> x.standFor(0, -1), x -> x.standFor(0, Edge.MIN));
        Edge.refused(due, "promise 16: n too large is BEYOND", Due.BEYOND, x -> x.standFor(0, 61), x -> x.standFor(0, Edge.MAX));
        Edge.refused(due, "promise 17: a number too small is BEYOND", Due.BEYOND, x -> x.guiseFor(-1, 5), x -> x.guiseFor(Edge.MIN, 5));
        Edge.refused(due, "promise 17: a number too large is BEYOND", Due.BEYOND, x -> x.guiseFor(3, 5), x -> x.guiseFor(Edge.MAX, 5));
        Edge.refused(due, "promise 17: n too small is BEYOND", Due.BEYOND, x -> x.guiseFor(0, -1), x -> x.guiseFor(0, Edge.MIN));
        Edge.refused(due, "promise 17: n too large is BEYOND", Due.BEYOND, x -> x.guiseFor(0, 61), x -> x.guiseFor(0, Edge.MAX));
        Edge.refused(due, "promise 18: a number too small is BEYOND", Due.BEYOND, x -> x.kindFor(-1, 5), x -> x.kindFor(Edge.MIN, 5));
        Edge.refused(due, "promise 18: a number too large is BEYOND", Due.BEYOND, x -> x.kindFor(3, 5), x -> x.kindFor(Edge.MAX, 5));
        Edge.refused(due, "promise 18: n too small is BEYOND", Due.BEYOND, x -> x.kindFor(0, -1), x -> x.kindFor(0, Edge.MIN));
        Edge.refused(due, "promise 18: n too large is BEYOND", Due.BEYOND, x -> x.kindFor(0, 61), x -> x.kindFor(0, Edge.MAX));
    }

    private static void noDays(Due due) {
        due.test("promise 16: behind 0 DAYS all CELLS do the same: the least is 0");
        BareThursday x = Edge.few();
        due.is("standFor(0, 0)", x.standFor(0, 0), 0);
        due.test("promise 17: behind 0 DAYS all GUISES do the same: the least is 0");
        due.is("guiseFor(0, 0)", x.guiseFor(0, 0), 0);
        due.test("promise 18: behind 0 DAYS all KINDS do the same: the least is 0");
        due.is("kindFor(0, 0)", x.kindFor(0, 0), 0);
    }

    private static void standFor(Due due) {
        due.test("promise 16: of several CELLS the least");
        BareThursday x = Towns.of("columbine at 12;columbine at 9;met 0 1");
        due.is("standFor(0, 12)", x.standFor(0, 12), 5);
        due.test("promise 16: of several CELLS the least, past 15, too");
        x = Towns.of("person at 12;person at 15;met 0 1");
        due.is("standFor(0, 12)", x.standFor(0, 12), 0);
        due.test("promise 16: CELL 15 is the last");
        x = Towns.of("wet;noise at 3;met 0 1");
        // Behind twelve days the wet has walked 24, the noise 36.
        due.is("standFor(0, 12)", x.standFor(0, 12), 15);
        due.test("promise 16: behind 60 DAYS, the most, there is a fifth of THE DAYS, behind 59 there is not");
        x = Towns.of("columbine at 7;harp at 9;met 0 1");
        due.is("standFor(0, 60)", x.standFor(0, 60), 0);
        due.is("standFor(0, 59)", x.standFor(0, 59), 4);
        due.test("promise 16: one alone, and one who is OUT, stands at 0");
        due.is("standFor(0, 60)", Towns.of("wet at 9").standFor(0, 60), 0);
        due.is("standFor(0, 60)", Towns.of("wet at 9 out;wet at 9;met 0 1").standFor(0, 60), 0);
    }

    private static void guiseFor(Due due) {
        due.test("promise 17: of several GUISES the least");
        BareThursday x = Towns.of("wet as 8;wet as 5");
        due.is("guiseFor(0, 12)", x.guiseFor(0, 12), 1);
        due.test("promise 17: of all GUISES that do the same the least, 0");
        x = Towns.of("lady as 7;harp at 1");
        due.is("guiseFor(0, 12)", x.guiseFor(0, 12), 0);
        due.test("promise 17: GUISE 11 is the last");
        x = lastGuise();
        due.is("guiseFor(0, 2)", x.guiseFor(0, 2), 11);
        due.is("guiseFor(0, 60)", x.guiseFor(0, 60), 11);
        due.test("promise 17: behind a DAY that is ordinary there is no JOY");
        due.is("guiseFor(0, 1)", x.guiseFor(0, 1), 0);
        due.test("promise 17: one alone is in 0, n is 60 at most");
        due.is("guiseFor(0, 60)", Towns.of("wet as 9").guiseFor(0, 60), 0);
    }

    // On day 10 the wet comes to the lady, in guise 11, which the lady minds in guise 11 alone; on the next one,
    // the day, both walk 2 and are at one cell again.
    private static BareThursday lastGuise() {
        BareThursday x = Towns.of("lady at 1 as 3;wet as 9;bell 10");
        x.change(1, 3, 1);
        return x;
    }

    private static void kindFor(Due due) {
        due.test("promise 18: of several KINDS the least");
        // The other lady comes to 1, where an aunt (from 0) is, too, and a lady is next to it: 3 for each of these.
        BareThursday x = Towns.of("harp;lady at 15;met 0 1;bell 11");
        due.is("kindFor(0, 1)", x.kindFor(0, 1), 2);
        due.test("promise 18: of all KINDS that do the same the least, 0");
        x = Towns.of("harp;harp at 8;met 0 1;bell 11");
        due.is("kindFor(0, 1)", x.kindFor(0, 1), 0);
        due.test("promise 18: KIND 6 is the last");
        x = Towns.of("harp at 14;harp;met 0 1;bell 11");
        due.is("kindFor(0, 1)", x.kindFor(0, 1), 6);
        due.test("promise 18: one alone is a PERSON");
        due.is("kindFor(0, 60)", Towns.of("wet").kindFor(0, 60), 0);
        due.test("promise 18: behind 60 DAYS, the most, there is a fifth of THE DAYS, behind 59 there is not");
        x = Towns.of("columbine at 7;harp;met 0 1");
        // A columbine comes to 0 on the fifth; every other kind, from 7, never.
        due.is("kindFor(0, 60)", x.kindFor(0, 60), 4);
        due.is("kindFor(0, 59)", x.kindFor(0, 59), 0);
    }

    private static void darkRefused(Due due) {
        Edge.refused(due, "promise 19: n too small is BEYOND", Due.BEYOND, x -> x.dark(-1), x -> x.dark(Edge.MIN));
        Edge.refused(due, "promise 19: n too large is BEYOND", Due.BEYOND, x -> x.dark(25), x -> x.dark(Edge.MAX));
    }

    private static void darkDays(Due due) {
        due.test("promise 19: behind 0 DAYS nobody need be OUT");
        due.is("dark(0)", Edge.friends(8, Towns.WET).dark(0), 0);
        due.test("promise 19: behind 11 DAYS from 0 nobody need be OUT, behind 12 somebody");
        BareThursday x = Edge.friends(2, Towns.WET);
        due.is("dark(11)", x.dark(11), 0);
        due.is("dark(12)", x.dark(12), 1);
        due.test("promise 19: behind 24 DAYS, the most, there are two of THE DAYS");
        x = Towns.of("columbine;harp at 10;met 0 1");
        due.is("dark(23)", x.dark(23), 0);
        due.is("dark(24)", x.dark(24), 1);
        due.test("promise 19: with nobody there it is the empty set, not NONE");
        due.is("dark(24)", new BareThursday().dark(24), 0);
    }

    private static void darkSets(Due due) {
        due.test("promise 19: of several sets of as many the least");
        BareThursday x = Towns.of("wet;wet;wet at 8;wet at 8;met 0 1;met 2 3");
        due.is("dark(12)", x.dark(12), 1 | 4);
        due.test("promise 19: the fewest come ahead of the least set");
        x = Towns.of("wet;wet;wet;met 0 2;met 1 2");
        due.is("dark(12)", x.dark(12), 4);
        due.test("promise 19: of eight who all would KNOW each other, all but the last");
        due.is("dark(12)", Edge.friends(8, Towns.COLUMBINE).dark(12), 127);
        due.test("promise 19: one who is OUT already need not be OUT, too");
        x = Edge.friends(3, Towns.WET);
        x.change(1, 5, 1);
        due.is("dark(12)", x.dark(12), 1);
        x.change(0, 5, 1);
        due.is("dark(12)", x.dark(12), 0);
        due.test("promise 19: JOY as now may be more than 0");
        x = Edge.friends(2, Towns.WET);
        x.go(12);
        due.is("dark(24)", x.dark(24), 0);
        x.change(1, 4, 0);
        due.is("dark(24)", x.dark(24), 1);
        due.test("promise 19: to come to KNOW without JOY is allowed");
        due.is("dark(12)", Edge.friends(8, Towns.HARP).dark(12), 0);
    }

    private static void circleRefused(Due due) {
        Edge.refused(due, "promise 20: a what too small is BEYOND", Due.BEYOND, x -> x.circle(-1), x -> x.circle(Edge.MIN));
        Edge.refused(due, "promise 20: a what too large is BEYOND", Due.BEYOND, x -> x.circle(2), x -> x.circle(Edge.MAX));
    }

    private static void circleSets(Due due) {
        for (int what = 0; what <= 1; what++) {
            int trait = 3 + what;
            due.test("promise 20: what " + what + ": of nobody it is the empty set");
            due.is("circle()", new BareThursday().circle(what), 0);
            due.test("promise 20: what " + what + ": of one alone, and of no pair, it is the first one");
            due.is("circle()", Towns.of("harp").circle(what), 1);
            due.is("circle()", Towns.of("harp;harp;harp").circle(what), 1);
            due.test("promise 20: what " + what + ": all eight");
            BareThursday x = eight(trait);
            due.is("circle()", x.circle(what), 255);
            due.is("the other what", x.circle(1 - what), 1);
            due.test("promise 20: what " + what + ": each must each other one: without one side of one pair, seven, the least set");
            x.change(7, trait, 127 & ~1);
            due.is("circle()", x.circle(what), 127);
            x = eight(trait);
            x.change(0, trait, 254 & ~2);
            due.is("circle()", x.circle(what), 255 & ~2);
            due.test("promise 20: what " + what + ": one side alone is no circle");
            x = Towns.of("harp;harp");
            x.change(0, trait, 2);
            due.is("circle()", x.circle(what), 1);
            due.test("promise 20: what " + what + ": the most people come ahead of the least set");
            x = Towns.of("harp;harp;harp");
            x.change(1, trait, 4);
            x.change(2, trait, 2);
            due.is("circle()", x.circle(what), 6);
        }
    }

    private static BareThursday eight(int trait) {
        BareThursday x = new BareThursday();
        for (int p = 0; p < 8; p++) {
            x.person(Towns.HARP, 0);
        }
        for (int p = 0; p < 8; p++) {
            x.change(p, trait, 255 & ~(1 << p));
        }
        return x;
    }

    private static void toldRefused(Due due) {
        Edge.refused(due, "promise 21: no such sheet is BEYOND", Due.BEYOND,
                x -> x.fits(-1, 0), x -> x.fits(4, 0), x -> x.fits(Edge.MIN, 0), x -> x.fits(Edge.MAX, 0));
        Edge.refused(due, "promise 21: a sheet that is MISSING", Due.MISSING, x -> x.fits(3, 0));
        Edge.refused(due, "promise 21: no such one is BEYOND", Due.BEYOND,
                x -> x.fits(0, -1), x -> x.fits(0, 3), x -> x.fits(0, Edge.MIN), x -> x.fits(0, Edge.MAX));
        Edge.refused(due, "promise 21: no such sheet is asked first", Due.BEYOND, x -> x.fits(4, 3), x -> x.fits(-1, -1));
        Edge.refused(due, "promise 21: MISSING is asked ahead of no such one", Due.MISSING, x -> x.fits(3, 3), x -> x.fits(3, -1));
        Edge.refused(due, "promise 22: no such sheet is BEYOND", Due.BEYOND,
                x -> x.kinds(-1, 0), x -> x.kinds(4, 0), x -> x.kinds(Edge.MIN, 0), x -> x.kinds(Edge.MAX, 0));
        Edge.refused(due, "promise 22: a sheet that is MISSING", Due.MISSING, x -> x.kinds(3, 0));
        Edge.refused(due, "promise 22: no such one is BEYOND", Due.BEYOND,
                x -> x.kinds(0, -1), x -> x.kinds(0, 3), x -> x.kinds(0, Edge.MIN), x -> x.kinds(0, Edge.MAX));
        Edge.refused(due, "promise 22: no such sheet is asked first", Due.BEYOND, x -> x.kinds(4, 3), x -> x.kinds(-1, -1));
        Edge.refused(due, "promise 22: MISSING is asked ahead of no such one", Due.MISSING, x -> x.kinds(3, 3), x -> x.kinds(3, -1));
    }

    private static void toldEmpty(Due due) {
        BareThursday x = Towns.of("harp;harp;met 0 1");
        Towns.row(x, 0, 8);
        Towns.row(x, 1, 8, -1, -1, -1);
        Towns.row(x, 2, 8, 2);
        Towns.row(x, 3, 8, 0);
        due.test("promise 21: a sheet of no numbers tells nothing: all GUISES");
        due.is("fits(0, 0)", x.fits(0, 0), 4095);
        due.test("promise 21: -1 is any: all GUISES");
        due.is("fits(1, 0)", x.fits(1, 0), 4095);
        due.test("promise 21: one number tells whom it MET now");
        due.is("fits(2, 0)", x.fits(2, 0), 4095);
        due.test("promise 21: what can't be is the empty set, no finding");
        due.is("fits(3, 0)", x.fits(3, 0), 0);
        due.test("promise 22: a sheet of no numbers tells nothing: all KINDS");
        due.is("kinds(0, 0)", x.kinds(0, 0), 127);
        due.test("promise 22: -1 is any: all KINDS");
        due.is("kinds(1, 0)", x.kinds(1, 0), 127);
        due.test("promise 22: one number tells whom it MET now");
        due.is("kinds(2, 0)", x.kinds(2, 0), 127);
        due.test("promise 22: what can't be is the empty set, no finding");
        due.is("kinds(3, 0)", x.kinds(3, 0), 0);
        due.is("status(-1)", x.status(-1), 0);
    }

    private static void toldLength(Due due) {
        BareThursday x = Towns.of("columbine at 1;harp as 9");
        int[] told = new int[40];
        java.util.Arrays.fill(told, -1);
        due.test("promise 21: the first number is of now");
        told[0] = 2;
        Towns.row(x, 0, 8, told);
        due.is("fits(0, 0)", x.fits(0, 0), 0);
        told[0] = 0;
        Towns.row(x, 0, 8, told);
        due.is("fits(0, 0)", x.fits(0, 0), 4095);
        due.test("promise 22: the first number is of now");
        due.is("kinds(0, 0)", x.kinds(0, 0), 127);
        // The columbine comes by 5 to 6, 11, and to the harp at 0 behind 12, 24, 36 days, and meets it on the next.
        due.test("promise 21: the last of forty numbers is of behind 39 DAYS");
        told[39] = 0;
        Towns.row(x, 0, 8, told);
        due.is("fits(0, 0)", x.fits(0, 0), 0);
        told[39] = 2;
        Towns.row(x, 0, 8, told);
        due.is("fits(0, 0)", x.fits(0, 0), 4095);
        due.test("promise 21: behind 36 DAYS it MET nobody yet, behind 37 it did");
        Towns.row(x, 0, 8, first(told, 36, 0));
        due.is("fits(0, 0)", x.fits(0, 0), 4095);
        Towns.row(x, 0, 8, first(told, 36, 2));
        due.is("fits(0, 0)", x.fits(0, 0), 0);
        Towns.row(x, 0, 8, first(told, 37, 2));
        due.is("fits(0, 0)", x.fits(0, 0), 4095);
        due.test("promise 22: the last of forty numbers is of behind 39 DAYS");
        x = Towns.of("columbine at 1;harp as 9");
        Towns.row(x, 0, 8, told);
        int kinds = x.kinds(0, 0);
        due.is("a columbine could be", kinds >> 4 & 1, 1);
        due.is("a harp could not", kinds >> 5 & 1, 0);
        due.is("a person could", kinds & 1, 1);
        told[1] = 2;
        Towns.row(x, 0, 8, told);
        due.is("nobody had come there behind 1", x.kinds(0, 0), 0);
    }

    private static int[] first(int[] row, int place, int v) {
        int[] told = java.util.Arrays.copyOf(row, place + 1);
        told[place] = v;
        return told;
    }

    private static void toldSigns(Due due) {
        due.test("promise 21: numbers are told with their sign: of 8 bits 255 is -1, any");
        BareThursday x = Edge.friends(8, Towns.HARP);
        Towns.row(x, 0, 8, 255);
        Towns.row(x, 1, 8, 254);
        Towns.row(x, 2, 16, 254);
        Towns.row(x, 3, 16, 255);
        due.is("fits(0, 0)", x.fits(0, 0), 4095);
        due.test("promise 21: a set of 128 or more is told by 16 bits, not by 8");
        due.is("fits(1, 0)", x.fits(1, 0), 0);
        due.is("fits(2, 0)", x.fits(2, 0), 4095);
        due.is("fits(3, 0)", x.fits(3, 0), 0);
        due.test("promise 22: numbers are told with their sign: of 8 bits 255 is -1, any");
        due.is("kinds(0, 0)", x.kinds(0, 0), 127);
        due.test("promise 22: a set of 128 or more is told by 16 bits, not by 8");
        due.is("kinds(1, 0)", x.kinds(1, 0), 0);
        due.is("kinds(2, 0)", x.kinds(2, 0), 127);
        due.is("kinds(3, 0)", x.kinds(3, 0), 0);
        due.test("promise 21: -2 is no set");
        Towns.row(x, 0, 32, -2);
        due.is("fits(0, 0)", x.fits(0, 0), 0);
        due.test("promise 22: -2 is no set");
        due.is("kinds(0, 0)", x.kinds(0, 0), 0);
    }

    private static void changesNothing(Due due) {
        due.test("promises 16 to 22: nothing changes by what is only asked");
        BareThursday x = Edge.few();
        BareThursday untouched = Edge.few();
        x.standFor(0, 60);
        x.guiseFor(1, 60);
        x.kindFor(2, 60);
        x.dark(24);
        x.circle(0);
        x.circle(1);
        x.fits(0, 0);
        x.kinds(0, 0);
        due.is("status(-1)", x.status(-1), untouched.status(-1));
        due.same("all", Edge.seen(x), Edge.seen(untouched));
    }
}
