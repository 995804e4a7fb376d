/** Promises 21 and 22: guises and kinds by told meetings. */
final class ToldTest {
    private ToldTest() {
    }

    static void all(Due due) {
        fits(due);
        kinds(due);
        signs(due);
        longest(due);
        findings(due);
    }

    // The person comes to the harp on the first day, and minds it unless its guise has come to 0.
    private static BareThursday harpAhead() {
        return Towns.of("person as 11;harp at 1");
    }

    private static void fits(Due due) {
        due.test("promise 21: guises in which one could be now");
        BareThursday x = harpAhead();
        String before = Towns.all(x);
        told(due, x, 2047, 0, 2);
        told(due, x, 2048, 0, 0);
        told(due, x, 2048, -1, 0);
        told(due, x, 0, 2);
        told(due, x, 0, 2, 2);
        told(due, x, 4095, 0);
        told(due, x, 4095, -1);
        told(due, x, 4095);
        told(due, x, 2047, 0, -1, 2);
        told(due, x, 0, 0, 2, 0);
        told(due, x, 0, 0, 4);
        due.same("all", Towns.all(x), before);
        x.change(0, 3, 2);
        told(due, x, 4095, 2, 2, 2);
        told(due, x, 0, 0);
    }

    private static void told(Due due, BareThursday x, int want, int... numbers) {
        Towns.row(x, 0, 16, numbers);
        due.is("fits(0, 0)", x.fits(0, 0), want);
    }

    private static void kinds(Due due) {
        due.test("promise 22: kinds that one could be of");
        BareThursday x = harpAhead();
        String before = Towns.all(x);
        Towns.row(x, 3, 32, 0, 2);
        due.is("kinds(3, 0)", x.kinds(3, 0), 1 << Towns.LADY);
        x.change(0, 2, 0);
        due.is("kinds(3, 0)", x.kinds(3, 0), 1 << Towns.LADY | 1 << Towns.PERSON);
        Towns.row(x, 3, 32, 0, 0);
        due.is("kinds(3, 0)", x.kinds(3, 0), 127 & ~(1 << Towns.LADY | 1 << Towns.PERSON));
        Towns.row(x, 3, 32, 0);
        due.is("kinds(3, 0)", x.kinds(3, 0), 127);
        Towns.row(x, 3, 32, 1);
        due.is("kinds(3, 0)", x.kinds(3, 0), 0);
        Towns.row(x, 3, 32);
        due.is("kinds(3, 0)", x.kinds(3, 0), 127);
        x.change(0, 2, 11);
        due.same("all", Towns.all(x), before);
    }

    private static void signs(Due due) {
        due.test("promises 21, 22: of 8 bits 255 is any, 128 is told below 0");
        BareThursday x = Towns.of("harp;harp;harp;harp;harp;harp;harp;harp");
        x.change(0, 3, 128);
        Towns.row(x, 0, 8, 255);
        due.is("fits(0, 0)", x.fits(0, 0), 4095);
        due.is("kinds(0, 0)", x.kinds(0, 0), 127);
        Towns.row(x, 0, 8, 128);
        due.is("fits(0, 0)", x.fits(0, 0), 0);
        due.is("kinds(0, 0)", x.kinds(0, 0), 0);
        Towns.row(x, 0, 16, 128);
        due.is("fits(0, 0)", x.fits(0, 0), 4095);
        Towns.row(x, 0, 16, 255);
        due.is("fits(0, 0)", x.fits(0, 0), 0);
        Towns.row(x, 0, 16, 65535);
        due.is("fits(0, 0)", x.fits(0, 0), 4095);
    }

    private static void longest(Due due) {
        due.test("promises 21, 22: forty numbers, the day among them");
        BareThursday x = Towns.of("person;noise at 3 as 2;aunt at 5 as 9;lady at 2 as 3;columbine at 1 as 4;wet as 7");
        for (int p = 0; p < 6; p++) {
            int[] met = new int[40];
            for (int i = 0; i < 40; i++) {
                met[i] = x.ahead(p, 3, i);
            }
            Towns.row(x, 1, 32, met);
            int guises = x.fits(1, p);
            int kinds = x.kinds(1, p);
            due.is("its guise fits", guises >> x.of(p, 2) & 1, 1);
            due.is("its kind fits", kinds >> x.of(p, 0) & 1, 1);
            for (int g = 0; g < 12; g++) {
                due.is("guise " + g + " of " + p, guises >> g & 1, asTold(x, p, 2, g, met));
            }
            for (int k = 0; k < 7; k++) {
                due.is("kind " + k + " of " + p, kinds >> k & 1, asTold(x, p, 0, k, met));
            }
        }
    }

    private static int asTold(BareThursday x, int p, int what, int v, int[] met) {
        int was = x.change(p, what, v);
        int so = 1;
        for (int i = 0; i < met.length; i++) {
            if (x.ahead(p, 3, i) != met[i]) {
                so = 0;
            }
        }
        x.change(p, what, was);
        return so;
    }

    private static void findings(Due due) {
        due.test("promises 21, 22: no such sheet, missing, no such one, in this order");
        BareThursday x = Towns.of("person");
        x.sheet(1, 8, 3);
        int[][] calls = {{4, 0}, {-1, 0}, {4, 9}, {0, 0}, {0, 9}, {1, 1}, {1, -1}};
        int[] wants = {Due.BEYOND, Due.BEYOND, Due.BEYOND, Due.MISSING, Due.MISSING, Due.BEYOND, Due.BEYOND};
        for (int i = 0; i < calls.length; i++) {
            due.is("fits(" + calls[i][0] + ", " + calls[i][1] + ")", x.fits(calls[i][0], calls[i][1]), wants[i]);
            due.is("kinds(" + calls[i][0] + ", " + calls[i][1] + ")", x.kinds(calls[i][0], calls[i][1]), wants[i]);
        }
    }
}
