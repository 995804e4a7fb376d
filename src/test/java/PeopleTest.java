/** Promises 1 to 8: a new object, and people as they are. */
final class PeopleTest {
    private static final String ALL_KINDS = "person;noise;aunt;lady;columbine;harp;wet";

    private PeopleTest() {
    }

    static void all(Due due) {
        newObject(due);
        person(due);
        of(due);
        ofByDay(due);
        gladdens(due);
        change(due);
        changeSets(due);
        changeBeyond(due);
        minds(due);
        mindsBeyond(due);
        far(due);
        who(due);
        two(due);
        twoSees(due);
    }

    private static void newObject(Due due) {
        due.test("promise 1: a new object is as at first");
        BareThursday x = new BareThursday();
        int[] counts = {0, 0, 0, 0, 0, 0, 1, 0};
        for (int what = 0; what <= 7; what++) {
            due.is("count(" + what + ")", x.count(what), counts[what]);
            due.is("now(" + what + ")", x.now(what), 0);
        }
        due.is("status(-1)", x.status(-1), 0);
        due.is("of(0, 0)", x.of(0, 0), Due.BEYOND);
        due.is("wipe()", x.wipe(), 0);
        due.is("undo()", x.undo(), Due.NONE);
        due.is("tear()", x.tear(), 0);
        for (int s = 0; s < 4; s++) {
            due.is("load(" + s + ")", x.load(s), Due.MISSING);
        }
        for (int spot = 0; spot < 10; spot++) {
            due.is("as(" + spot + ", 0)", x.as(spot, 0), Due.MISSING);
        }
    }

    private static void person(Due due) {
        due.test("promise 2: person tells the number; BEYOND, then FULL");
        BareThursday x = new BareThursday();
        due.is("person(7, 0)", x.person(7, 0), Due.BEYOND);
        due.is("person(-1, 0)", x.person(-1, 0), Due.BEYOND);
        due.is("person(0, 16)", x.person(0, 16), Due.BEYOND);
        due.is("person(0, -1)", x.person(0, -1), Due.BEYOND);
        due.is("person(min, max)", x.person(Integer.MIN_VALUE, Integer.MAX_VALUE), Due.BEYOND);
        due.is("count(1)", x.count(1), 0);
        for (int p = 0; p < 7; p++) {
            due.is("person(" + p + ", " + (15 - p) + ")", x.person(p, 15 - p), p);
            int[] traits = {p, 15 - p, 0, 0, 0, 0, 0};
            for (int what = 0; what < traits.length; what++) {
                due.is("of(" + p + ", " + what + ")", x.of(p, what), traits[what]);
            }
        }
        due.is("person(6, 0)", x.person(6, 0), 7);
        due.is("person(0, 0)", x.person(0, 0), Due.FULL);
        due.is("person(7, 0)", x.person(7, 0), Due.BEYOND);
        due.is("count(1)", x.count(1), 8);

        due.test("promise 2: one is new even where an undone one was");
        x = new BareThursday();
        x.image();
        x.person(Towns.LADY, 3);
        x.person(Towns.LADY, 3);
        x.change(0, 2, 5);
        x.change(0, 3, 2);
        x.change(0, 4, 2);
        x.change(0, 5, 1);
        x.change(0, 6, 9);
        x.undo();
        due.is("person(0, 4)", x.person(0, 4), 0);
        int[] traits = {0, 4, 0, 0, 0, 0, 0, 1, 1, 1, 1};
        for (int what = 0; what < traits.length; what++) {
            due.is("of(0, " + what + ")", x.of(0, what), traits[what]);
        }
    }

    private static void of(Due due) {
        due.test("promise 3: of tells each trait");
        BareThursday x = Towns.of("columbine at 9 as 4 out;aunt at 2;harp;met 0 1");
        x.change(0, 4, 6);
        x.change(0, 6, 77);
        int[] traits = {4, 9, 4, 2, 6, 1, 77, 0, 5, 4, 15};
        for (int what = 0; what < traits.length; what++) {
            due.is("of(0, " + what + ")", x.of(0, what), traits[what]);
        }

        due.test("promise 3: of beyond");
        due.is("of(0, 11)", x.of(0, 11), Due.BEYOND);
        due.is("of(0, -1)", x.of(0, -1), Due.BEYOND);
        due.is("of(3, 0)", x.of(3, 0), Due.BEYOND);
        due.is("of(-1, 0)", x.of(-1, 0), Due.BEYOND);
    }

    private static void ofByDay(Due due) {
        due.test("promise 3: what each kind walks, shifts, shines by day");
        byDay(due, 0, 7, 1, 3, 0, 1, 0, 0, 2);
        byDay(due, 1, 7, 1, 3, 1, 2, 0, 0, 2);
        byDay(due, 10, 7, 1, 3, 0, 1, 0, 0, 2);
        byDay(due, 11, 7, 1, 3, 1, 2, 5, 0, 2);
        byDay(due, 0, 8, 1, 2, 0, 1, 5, 0, 2);
        byDay(due, 1, 8, 1, 2, 0, 0, 5, 0, 2);
        byDay(due, 2, 8, 1, 2, 0, 0, 5, 0, 2);
        byDay(due, 9, 8, 1, 2, 0, 1, 5, 0, 2);
        byDay(due, 11, 8, 1, 2, 0, 0, 5, 0, 2);
        byDay(due, 0, 9, 1, 0, 2, 2, 4, 0, 0);
        byDay(due, 11, 9, 1, 0, 2, 2, 4, 0, 0);
        byDay(due, 0, 10, 1, 1, 3, 3, 9, 0, 20);
    }

    private static void byDay(Due due, int day, int what, int... wants) {
        BareThursday x = Towns.of(ALL_KINDS + ";bell " + day);
        for (int kind = 0; kind < wants.length; kind++) {
            due.is("day " + day + ", of(" + kind + ", " + what + ")", x.of(kind, what), wants[kind]);
        }
    }

    private static void gladdens(Due due) {
        due.test("promise 3: whom a lady or a columbine knows already gladdens it");
        BareThursday x = Towns.of(ALL_KINDS);
        int[] wants = {1, 1, 3, 6, 18, 0, 20};
        int[] threeOthers = {14, 13, 11, 7, 7, 7, 7};
        for (int p = 0; p < 7; p++) {
            x.change(p, 4, threeOthers[p]);
            due.is("of(" + p + ", 10)", x.of(p, 10), wants[p]);
        }
    }

    private static void change(Due due) {
        due.test("promise 4: change tells what it was, and it is so");
        BareThursday x = Towns.of("wet;noise at 3;aunt");
        int[] firsts = {0, 0, 0, 0, 0, 0, 0};
        int[] mosts = {6, 15, 11, 6, 6, 1, 9999};
        int[] was = {6, 0, 0, 0, 0, 0, 0};
        for (int what = 0; what <= 6; what++) {
            due.is("change(0, " + what + ", most)", x.change(0, what, mosts[what]), was[what]);
            due.is("of(0, " + what + ")", x.of(0, what), mosts[what]);
            due.is("change(0, " + what + ", most)", x.change(0, what, mosts[what]), mosts[what]);
        }
        for (int what = 0; what <= 6; what++) {
            due.is("change(0, " + what + ", least)", x.change(0, what, firsts[what]), mosts[what]);
            due.is("of(0, " + what + ")", x.of(0, what), firsts[what]);
        }
        due.is("of(1, 1)", x.of(1, 1), 3);
        due.is("of(1, 0)", x.of(1, 0), 1);
    }

    private static void changeSets(Due due) {
        due.test("promise 4: met and knows are sets of others there are");
        BareThursday x = Towns.of("person;person;person");
        for (int what = 3; what <= 4; what++) {
            due.is("change(1, " + what + ", 5)", x.change(1, what, 5), 0);
            due.is("change(1, " + what + ", 2)", x.change(1, what, 2), Due.BEYOND);
            due.is("change(1, " + what + ", 7)", x.change(1, what, 7), Due.BEYOND);
            due.is("change(1, " + what + ", 8)", x.change(1, what, 8), Due.BEYOND);
            due.is("change(1, " + what + ", -1)", x.change(1, what, -1), Due.BEYOND);
            due.is("change(1, " + what + ", min)", x.change(1, what, Integer.MIN_VALUE), Due.BEYOND);
            due.is("change(1, " + what + ", 4)", x.change(1, what, 4), 5);
            due.is("of(0, " + what + ")", x.of(0, what), 0);
        }
    }

    private static void changeBeyond(Due due) {
        due.test("promise 4: change beyond changes nothing");
        BareThursday x = Towns.of("aunt at 3 as 4 out;harp");
        String before = Towns.all(x);
        int[] mosts = {6, 15, 11, 2, 2, 1, 9999};
        for (int what = 0; what <= 6; what++) {
            due.is("change(0, " + what + ", -1)", x.change(0, what, -1), Due.BEYOND);
            due.is("change(0, " + what + ", most + 1)", x.change(0, what, mosts[what] + 1), Due.BEYOND);
            due.is("change(2, " + what + ", 0)", x.change(2, what, 0), Due.BEYOND);
            due.is("change(-1, " + what + ", 0)", x.change(-1, what, 0), Due.BEYOND);
        }
        due.is("change(0, 7, 0)", x.change(0, 7, 0), Due.BEYOND);
        due.is("change(0, -1, 0)", x.change(0, -1, 0), Due.BEYOND);
        due.same("all", Towns.all(x), before);
    }

    private static void minds(Due due) {
        due.test("promise 5: which guises each kind minds, in guise 7, having met nobody");
        BareThursday x = Towns.of("person as 7;noise as 7;aunt as 7;lady as 7;columbine as 7;harp as 7;wet as 7");
        int[] sets = {4095 & ~128, 4095, 63, 63 | 128, 63 | 128 | 512, 0, 2730};
        for (int p = 0; p < 7; p++) {
            due.is("minds of " + p, mindedSet(x, p), sets[p]);
        }

        due.test("promise 5: having met somebody, a columbine minds guise 9 alone");
        for (int p = 0; p < 7; p++) {
            x.change(p, 3, p == 0 ? 2 : 1);
            due.is("minds of " + p, mindedSet(x, p), p == 4 ? 512 : sets[p]);
        }
        due.test("promise 5: a columbine minds guise 9 also in it");
        x.change(4, 2, 9);
        due.is("minds(4, 9)", x.minds(4, 9), 1);
        x.change(4, 3, 0);
        due.is("minds of 4", mindedSet(x, 4), 63 | 512);
    }

    private static int mindedSet(BareThursday x, int p) {
        int set = 0;
        for (int g = 0; g < 12; g++) {
            set |= x.minds(p, g) << g;
        }
        return set;
    }

    private static void mindsBeyond(Due due) {
        due.test("promise 5: minds beyond");
        BareThursday x = Towns.of("noise");
        due.is("minds(0, 12)", x.minds(0, 12), Due.BEYOND);
        due.is("minds(0, -1)", x.minds(0, -1), Due.BEYOND);
        due.is("minds(1, 0)", x.minds(1, 0), Due.BEYOND);
        due.is("minds(-1, 0)", x.minds(-1, 0), Due.BEYOND);
    }

    private static void far(Due due) {
        due.test("promise 6: far is the shorter way round");
        BareThursday x = Towns.of("person;person");
        for (int a = 0; a < 16; a++) {
            x.change(0, 1, a);
            for (int b = 0; b < 16; b += 5) {
                x.change(1, 1, b);
                int on = (b - a + 16) % 16;
                due.is("far from " + a + " to " + b, x.far(0, 1), on <= 8 ? on : 16 - on);
                due.is("far from " + b + " to " + a, x.far(1, 0), on <= 8 ? on : 16 - on);
            }
        }
        due.test("promise 6: far beyond");
        due.is("far(0, 0)", x.far(0, 0), Due.BEYOND);
        due.is("far(0, 2)", x.far(0, 2), Due.BEYOND);
        due.is("far(2, 0)", x.far(2, 0), Due.BEYOND);
        due.is("far(-1, 0)", x.far(-1, 0), Due.BEYOND);
        due.is("far(0, -1)", x.far(0, -1), Due.BEYOND);
    }

    private static void who(Due due) {
        due.test("promise 7: who is at a cell, as a set");
        BareThursday x = Towns.of("person at 15;noise;harp at 15;wet at 7");
        due.is("who(15)", x.who(15), 5);
        due.is("who(0)", x.who(0), 2);
        due.is("who(7)", x.who(7), 8);
        due.is("who(8)", x.who(8), 0);
        due.is("who(16)", x.who(16), Due.BEYOND);
        due.is("who(-1)", x.who(-1), Due.BEYOND);
    }

    private static void two(Due due) {
        due.test("promise 8: both met, both know: each the other one");
        BareThursday x = Towns.of("person;person;person");
        for (int what = 0; what <= 1; what++) {
            x.change(0, 3 + what, 2);
            due.is("two(0, 1, " + what + ")", x.two(0, 1, what), 0);
            due.is("two(1, 0, " + what + ")", x.two(1, 0, what), 0);
            x.change(1, 3 + what, 5);
            due.is("two(0, 1, " + what + ")", x.two(0, 1, what), 1);
            due.is("two(1, 0, " + what + ")", x.two(1, 0, what), 1);
            due.is("two(1, 2, " + what + ")", x.two(1, 2, what), 0);
        }
        due.test("promise 8: two beyond");
        due.is("two(0, 0, 0)", x.two(0, 0, 0), Due.BEYOND);
        due.is("two(0, 3, 0)", x.two(0, 3, 0), Due.BEYOND);
        due.is("two(3, 0, 0)", x.two(3, 0, 0), Due.BEYOND);
        due.is("two(-1, 0, 0)", x.two(-1, 0, 0), Due.BEYOND);
        due.is("two(0, 1, 3)", x.two(0, 1, 3), Due.BEYOND);
        due.is("two(0, 1, -1)", x.two(0, 1, -1), Due.BEYOND);
    }

    private static void twoSees(Due due) {
        due.test("promise 8: they would see each other no more far than the lesser of what both shine");
        BareThursday x = Towns.of("columbine at 1;aunt at 15;person at 14;noise at 1;harp");
        due.is("two(0, 1, 2)", x.two(0, 1, 2), 1);
        due.is("two(1, 0, 2)", x.two(1, 0, 2), 1);
        due.is("two(1, 2, 2)", x.two(1, 2, 2), 1);
        due.is("two(0, 2, 2)", x.two(0, 2, 2), 0);
        due.is("two(0, 3, 2)", x.two(0, 3, 2), 1);
        due.is("two(3, 4, 2)", x.two(3, 4, 2), 0);
        x.change(0, 1, 2);
        due.is("two(0, 1, 2)", x.two(0, 1, 2), 0);
        x.change(0, 1, 1);
        x.change(1, 5, 1);
        due.is("two(0, 1, 2)", x.two(0, 1, 2), 0);
        due.is("two(1, 0, 2)", x.two(1, 0, 2), 0);
        due.is("two(1, 2, 2)", x.two(1, 2, 2), 0);
        due.test("promise 8: seeing asks neither the day nor whom they met");
        due.is("two(0, 3, 2)", x.two(0, 3, 2), 1);
        due.is("now(7)", x.now(7), 0);
    }
}
