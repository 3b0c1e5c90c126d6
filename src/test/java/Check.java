/** What every test here uses: it tells each answer that is not the one due, and ends with exit code 1 if there was one. */
final class Check {
    static final int BEYOND = -1000000001;
    static final int FULL = -1000000002;
    static final int KIND = -1000000003;
    static final int NONE = -1000000004;
    static final int STATE = -1000000005;
    static final int MISSING = -1000000006;
    static final int SIZE = -1000000007;

    private static int asked = 0;
    private static int wrong = 0;

    private Check() {
    }

    static void due(String what, long got, long want) {
        asked++;
        if (got != want) {
            wrong++;
            System.out.println(what + ": answered " + got + ", due is " + want);
        }
    }

    static void finish(String name) {
        System.out.println(name + ": " + asked + " asked, " + wrong + " not as due");
        if (wrong != 0) {
            System.exit(1);
        }
    }

    /** A new object in a month, reached by the calls alone. */
    static SproutCoins inMonth(int month) {
        SproutCoins x = new SproutCoins();
        for (int left = month; left > 0; left -= 120) {
            x.months(Math.min(left, 120));
        }
        return x;
    }

    /** A text fed by fours, as far as it goes. */
    static void feed(SproutCoins x, String text) {
        for (int i = 0; i < text.length(); i += 4) {
            int n = Math.min(4, text.length() - i);
            int bytes = 0;
            for (int j = 0; j < n; j++) {
                bytes = bytes << 8 | text.charAt(i + j);
            }
            x.feed(bytes, n);
        }
    }

    static int told(SproutCoins x, String text) {
        feed(x, text);
        return x.market();
    }
}
