/** Promises 23 to 25: nights by draws. */
final class NightTest {
    private static int z;

    private NightTest() {
    }

    static void all(Due due) {
        night(due);
        nightFew(due);
        nightBeyond(due);
        odds(due);
        oddsBeyond(due);
        seed(due);
    }

    private static int draw() {
        z = z * 1103515245 + 12345;
        return z >>> 8;
    }

    private static void night(Due due) {
        due.test("promise 23: three draws place one, then a day, so many times");
        String town = "person;noise;aunt;lady;columbine;harp;wet;person;met 0 3;met 0 4;met 3 4;met 6 1;bell 8";
        int[] seeds = {1, 0, -1, 77777, Integer.MIN_VALUE, Integer.MAX_VALUE};
        for (int seed : seeds) {
            BareThursday x = Towns.of(town);
            BareThursday y = Towns.of(town);
            x.seed(seed);
            z = seed;
            for (int n = 1; n <= 20; n += 3) {
                int joy = 0;
                for (int i = 0; i < n; i++) {
                    int p = draw() % 8;
                    y.change(p, 1, draw() % 16);
                    y.change(p, 2, draw() % 12);
                    joy = y.go(1);
                }
                y.seed(z);
                due.is("night(" + n + ")", x.night(n), joy);
                due.same("all", Towns.all(x), Towns.all(y));
            }
        }
        due.test("promise 23: the first draws of a new object");
        BareThursday x = Towns.of("harp;harp;harp;harp;harp;harp;harp;harp");
        // 1103527590, 2524885223, 662824084: their places are 4310654, 9862832, 2589156.
        x.night(1);
        due.is("of(6, 1)", x.of(4310654 % 8, 1), 9862832 % 16);
        due.is("of(6, 2)", x.of(4310654 % 8, 2), 2589156 % 12);
        due.is("count(6)", x.count(6), 662824084);
    }

    private static void nightFew(Due due) {
        due.test("promise 23: three draws also if there is no such one");
        BareThursday x = new BareThursday();
        due.is("night(2)", x.night(2), 0);
        z = 1;
        for (int i = 0; i < 6; i++) {
            draw();
        }
        due.is("count(6)", x.count(6), z);
        due.is("now(0)", x.now(0), 2);
        x.person(0, 0);
        x.seed(1);
        x.night(1);
        due.is("of(0, 1)", x.of(0, 1), 1);
        due.is("of(0, 2)", x.of(0, 2), 1);
    }

    private static void nightBeyond(Due due) {
        due.test("promise 23: night beyond draws nothing");
        BareThursday x = Towns.of("person");
        due.is("night(0)", x.night(0), Due.BEYOND);
        due.is("night(21)", x.night(21), Due.BEYOND);
        due.is("night(-1)", x.night(-1), Due.BEYOND);
        due.is("count(6)", x.count(6), 1);
        due.is("now(0)", x.now(0), 0);
        due.is("night(20)", x.night(20), 0);
        due.is("now(0)", x.now(0), 20);
    }

    private static void odds(Due due) {
        due.test("promise 24: odds in lowest terms");
        BareThursday x = Towns.of("person as 7;noise as 7;aunt as 7;lady as 7;columbine as 7;harp as 7;wet as 7");
        int[] above = {11, 1, 1, 7, 2, 0, 1};
        int[] below = {12, 1, 2, 12, 3, 1, 2};
        for (int p = 0; p < 7; p++) {
            long over = 1;
            long under = 1;
            for (int n = 0; n <= 17; n++) {
                due.is("odds(" + p + ", " + n + ", 0)", x.odds(p, n, 0), over);
                due.is("odds(" + p + ", " + n + ", 1)", x.odds(p, n, 1), under);
                over *= above[p];
                under *= below[p];
            }
        }
        due.is("odds(0, 17, 0)", x.odds(0, 17, 0), 505447028499293771L);
        due.is("odds(0, 17, 1)", x.odds(0, 17, 1), 2218611106740436992L);
        due.test("promise 24: as one minds now");
        x.change(3, 2, 3);
        due.is("odds(3, 1, 1)", x.odds(3, 1, 1), 2);
        x.change(4, 3, 1);
        due.is("odds(4, 2, 0)", x.odds(4, 2, 0), 1);
        due.is("odds(4, 2, 1)", x.odds(4, 2, 1), 144);
        x.change(4, 3, 0);
        x.change(4, 2, 9);
        due.is("odds(4, 2, 0)", x.odds(4, 2, 0), 49);
        due.is("odds(4, 2, 1)", x.odds(4, 2, 1), 144);
    }

    private static void oddsBeyond(Due due) {
        due.test("promise 24: odds beyond");
        BareThursday x = Towns.of("person");
        due.is("odds(0, 18, 0)", x.odds(0, 18, 0), Due.BEYOND);
        due.is("odds(0, -1, 0)", x.odds(0, -1, 0), Due.BEYOND);
        due.is("odds(0, 1, 2)", x.odds(0, 1, 2), Due.BEYOND);
        due.is("odds(0, 1, -1)", x.odds(0, 1, -1), Due.BEYOND);
        due.is("odds(1, 1, 0)", x.odds(1, 1, 0), Due.BEYOND);
        due.is("odds(-1, 1, 0)", x.odds(-1, 1, 0), Due.BEYOND);
        due.is("status(0)", x.status(0), 6);
        due.is("count(6)", x.count(6), 1);
    }

    private static void seed(Due due) {
        due.test("promise 25: seed tells what it was, and may be any int");
        BareThursday x = new BareThursday();
        due.is("seed(min)", x.seed(Integer.MIN_VALUE), 1);
        due.is("count(6)", x.count(6), Integer.MIN_VALUE);
        due.is("seed(-1000001)", x.seed(-1000001), Integer.MIN_VALUE);
        due.is("count(6)", x.count(6), -1000001);
        due.is("seed(5)", x.seed(5), -1000001);
        due.is("status(-1)", x.status(-1), 0);
    }
}
