/** What several tests do with a town. */
final class Towns {
    static final int PERSON = 0;
    static final int NOISE = 1;
    static final int AUNT = 2;
    static final int LADY = 3;
    static final int COLUMBINE = 4;
    static final int HARP = 5;
    static final int WET = 6;

    private Towns() {
    }

    /** A text is how a test makes a town in few words. */
    static BareThursday of(String text) {
        BareThursday x = new BareThursday();
        if (!text.isEmpty() && read(x, text) < 0) {
            throw new IllegalStateException("not a text: " + text);
        }
        return x;
    }

    static int read(BareThursday x, String text) {
        feed(x, text);
        return x.text();
    }

    static void feed(BareThursday x, String text) {
        for (int i = 0; i < text.length(); i++) {
            x.feed(text.charAt(i), 1);
        }
    }

    static void row(BareThursday x, int s, int bits, int... numbers) {
        x.sheet(s, bits, numbers.length);
        for (int i = 0; i < numbers.length; i++) {
            x.write(s, i, numbers[i]);
        }
    }

    static String all(BareThursday x) {
        StringBuilder told = new StringBuilder();
        for (int what = 0; what <= 7; what++) {
            told.append(' ').append(x.now(what));
        }
        for (int what = 0; what <= 7; what++) {
            told.append(' ').append(x.count(what));
        }
        for (int p = 0; p < x.count(1); p++) {
            told.append(" /");
            for (int what = 0; what <= 10; what++) {
                told.append(' ').append(x.of(p, what));
            }
        }
        return told.toString();
    }
}
