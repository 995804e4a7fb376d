/** Promises 36 to 40: images, count, status. */
final class ImageTest {
    private static final String TOWN = "lady at 3 as 4 out;columbine at 9;met 0 1;bell 7";

    private ImageTest() {
    }

    static void all(Due due) {
        image(due);
        undo(due);
        tear(due);
        count(due);
        countBeyond(due);
        status(due);
        statusBeyond(due);
    }

    private static void image(Due due) {
        due.test("promises 36, 37: all but the tape and sheets is kept, and comes back");
        BareThursday x = Towns.of(TOWN);
        x.change(0, 4, 2);
        x.change(1, 6, 12);
        x.seed(99);
        x.hold(4, 1);
        Towns.row(x, 0, 8, 5);
        String before = Towns.all(x);
        due.is("image()", x.image(), 1);
        due.same("all", Towns.all(x), before);
        int[] others = {1, 0, 1, 0, 0, 0, 1};
        for (int what = 0; what <= 6; what++) {
            x.change(0, what, others[what]);
        }
        x.person(0, 0);
        x.night(20);
        x.hold(4, 0);
        x.hold(5, 0);
        Towns.feed(x, "we");
        Towns.row(x, 0, 8, 6);
        x.sheet(1, 8, 1);
        due.is("undo()", x.undo(), 7);
        due.is("count(5)", x.count(5), 2);
        due.is("as(4, 4)", x.as(4, 4), 1);
        due.is("as(5, 0)", x.as(5, 0), Due.MISSING);
        due.is("load(0)", x.load(0), 1);
        due.is("of(0, 2)", x.of(0, 2), 6);
        x.change(0, 2, 4);
        due.is("load(1)", x.load(1), 1);
        x.change(0, 2, 4);
        due.is("wipe()", x.wipe(), 2);
        due.same("all", Towns.all(x), before);
    }

    private static void undo(Due due) {
        due.test("promise 37: the image kept latest stays");
        BareThursday x = Towns.of(TOWN);
        due.is("undo()", x.undo(), Due.NONE);
        x.image();
        x.go(1);
        due.is("undo()", x.undo(), 7);
        x.go(2);
        due.is("undo()", x.undo(), 7);
        due.is("now(0)", x.now(0), 7);
        x.go(5);
        x.image();
        x.go(3);
        due.is("undo()", x.undo(), 12);
        x.go(3);
        due.is("undo()", x.undo(), 12);
        due.test("promise 37: what changes after an undo does not change the image");
        x.change(0, 2, 9);
        x.change(0, 6, 9);
        x.hold(0, 0);
        x.undo();
        due.is("of(0, 6)", x.of(0, 6) == 9 ? 1 : 0, 0);
        due.is("as(0, 0)", x.as(0, 0), Due.MISSING);
        due.test("promise 37: what is only asked does not change the image");
        x.joy(100);
        x.standFor(0, 60);
        x.dark(24);
        x.known();
        due.is("undo()", x.undo(), 12);
    }

    private static void tear(Due due) {
        due.test("promise 38: tear keeps nothing");
        BareThursday x = new BareThursday();
        due.is("tear()", x.tear(), 0);
        x.image();
        x.image();
        due.is("tear()", x.tear(), 1);
        due.is("undo()", x.undo(), Due.NONE);
        due.is("tear()", x.tear(), 0);
        x.image();
        due.is("undo()", x.undo(), 0);
        due.is("tear()", x.tear(), 1);
    }

    private static void count(Due due) {
        due.test("promise 39: count tells each");
        BareThursday x = Towns.of("wet as 3;wet as 3;harp at 9;met 0 1;bell 11");
        x.go(1);
        x.change(2, 6, 30);
        x.change(0, 6, 3);
        x.seed(-5);
        x.hold(0, 1);
        x.hold(3, 1);
        x.hold(9, 0);
        Towns.feed(x, "harp at");
        int[] wants = {12, 3, 40, 1, 33, 7, -5, 3};
        for (int what = 0; what < wants.length; what++) {
            due.is("count(" + what + ")", x.count(what), wants[what]);
        }
        x.change(1, 4, 0);
        due.is("count(3)", x.count(3), 0);
    }

    private static void countBeyond(Due due) {
        due.test("promise 39: count beyond");
        BareThursday x = new BareThursday();
        due.is("count(8)", x.count(8), Due.BEYOND);
        due.is("count(-1)", x.count(-1), Due.BEYOND);
        due.is("status(0)", x.status(0), 2);
    }

    private static void status(Due due) {
        due.test("promise 40: status counts each finding, and undo takes none back");
        BareThursday x = new BareThursday();
        x.image();
        x.of(0, 0);
        x.of(0, 0);
        x.odds(0, 0, 0);
        due.is("status(0)", x.status(0), 3);
        for (int p = 0; p < 10; p++) {
            x.person(Towns.HARP, 0);
        }
        due.is("status(1)", x.status(1), 2);
        x.hold(0, 0);
        x.as(0, 1);
        due.is("status(2)", x.status(2), 1);
        x.tear();
        x.undo();
        x.known();
        x.when(0, 1, 0);
        x.passed(0, 9999);
        due.is("status(3)", x.status(3), 4);
        due.is("status(4)", x.status(4), 0);
        x.load(0);
        x.judge(1);
        x.fits(2, 9);
        x.as(1, 1);
        x.write(3, 0, 0);
        due.is("status(5)", x.status(5), 5);
        x.sheet(0, 8, -1);
        due.is("status(6)", x.status(6), 1);
        due.is("status(-1)", x.status(-1), 16);
        x.image();
        x.of(9, 0);
        x.undo();
        due.is("status(0)", x.status(0), 4);
        due.is("status(-1)", x.status(-1), 17);
        x.text();
        due.is("status(-1)", x.status(-1), 17);
    }

    private static void statusBeyond(Due due) {
        due.test("promise 40: status beyond, counted from then on");
        BareThursday x = new BareThursday();
        due.is("status(7)", x.status(7), Due.BEYOND);
        due.is("status(0)", x.status(0), 1);
        due.is("status(-2)", x.status(-2), Due.BEYOND);
        due.is("status(max)", x.status(Integer.MAX_VALUE), Due.BEYOND);
        due.is("status(min)", x.status(Integer.MIN_VALUE), Due.BEYOND);
        due.is("status(-1)", x.status(-1), 4);
        due.is("status(0)", x.status(0), 4);
        for (int which = 1; which <= 6; which++) {
            due.is("status(" + which + ")", x.status(which), 0);
        }
    }
}
