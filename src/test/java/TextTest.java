/** Promises 33 to 35: the tape, and a market told in a text. */
public final class TextTest {
    public static void main(String[] args) {
        feeding();
        wiping();
        items();
        tokens();
        faults();
        tooMany();
        endsEarly();
        lateLoans();
        Check.finish("TextTest");
    }

    private static void feeding() {
        SproutCoins x = new SproutCoins();
        int[] wrong = {-1, 0, 5};
        for (int n : wrong) {
            Check.due("feed beyond", x.feed(7, n), Check.BEYOND);
        }
        Check.due("the highest first", x.feed(0x7f730000 | 'o' << 8 | 'i', 2), 2);
        Check.due("one byte", x.feed(0x55555500 | 'l', 1), 3);
        Check.due("three of them", x.feed(0x11000000 | ' ' << 16 | '2' << 8 | ' ', 3), 6);
        Check.due("the last", x.feed('7', 1), 7);
        Check.due("not yet a soil", x.market(), -1);
        Check.due("the tape is empty", x.count(3), 0);
        x.feed(0x736f696c, 4);
        x.feed(0x20322037, 4);
        Check.due("soil 2 7", x.market(), 1);
        Check.due("it is", x.soil(2, 0), 7);
        for (int i = 1; i <= 29; i++) {
            Check.due("four more", x.feed(-1, 4), 4 * i);
        }
        Check.due("118", x.feed(-1, 2), 118);
        Check.due("three don't go in", x.feed(-1, 3), Check.FULL);
        Check.due("BEYOND first", x.feed(-1, 5), Check.BEYOND);
        Check.due("118 still", x.count(3), 118);
        Check.due("120", x.feed(-1, 2), 120);
        Check.due("one more", x.feed(-1, 1), Check.FULL);
    }

    private static void wiping() {
        SproutCoins x = new SproutCoins();
        Check.feed(x, "abcdefg");
        Check.due("seven", x.wipe(), 7);
        Check.due("none", x.wipe(), 0);
        Check.due("an item behind it alone", Check.told(x, "soil 0 1"), 1);
    }

    private static void items() {
        SproutCoins x = Check.inMonth(7);
        Check.due("all kinds", Check.told(x, "coin of 0 size 1;blue of 1 size 2 rotten;red of 2 size 3 planted;seed of 3 size 99;"
            + "boiled of 0 size 0;sky of 1 size 5"), 6);
        int[][] due = {{0, 0, 1, 0}, {1, 1, 2, 1}, {2, 2, 3, 2}, {3, 3, 99, 0}, {4, 0, 0, 0}, {5, 1, 5, 0}};
        for (int c = 0; c < 6; c++) {
            for (int what = 0; what < 4; what++) {
                Check.due("told of(" + c + ", " + what + ")", x.of(c, what), due[c][what]);
            }
        }
        Check.due("soil, price, loan", Check.told(x, "soil 3 9;price 11 99;loan 2 to 0 9999 in 120;loan 0 to 3 1 in 1"), 4);
        Check.due("soil", x.soil(3, 1), 9);
        Check.due("price", x.price(11, 1), 99);
        int[] loan = {2, 0, 9999, 127, 0};
        for (int what = 0; what < 5; what++) {
            Check.due("told loanOf(0, " + what + ")", x.loanOf(0, what), loan[what]);
        }
        Check.due("the second's month", x.loanOf(1, 3), 8);
        Check.due("the least and the most", Check.told(x, "soil 3 0;price 0 0;loan 3 to 2 1 in 1;sky of 3 size 0"), 4);
        Check.due("soil 0", x.soil(3, 1), 0);
        Check.due("price 0", x.price(0, 1), 0);
        Check.due("who owes", x.loanOf(2, 0), 3);
        Check.due("the later item stands", Check.told(x, "soil 1 2;soil 1 3"), 2);
        Check.due("it does", x.soil(1, 0), 3);
        Check.due("no finding", x.status(-1), 0);
    }

    private static void tokens() {
        SproutCoins x = new SproutCoins();
        Check.due("no blanks", Check.told(x, "coin of0size9;soil1 2"), 2);
        Check.due("many blanks", Check.told(x, "   coin  of 0   size 9  planted  ;  soil 1 2   "), 2);
        Check.due("zeros ahead", Check.told(x, "soil 0000000001 00000000000000000009"), 1);
        Check.due("it is 9", x.soil(1, 0), 9);
        Check.due("far above any int", Check.told(x, "soil 4294967297 1"), -6);
        Check.due("as long as can be", Check.told(x, "coinof 0 size 9"), -1);
        Check.due("a number and a word", Check.told(x, "coin of 0 size 9rotten"), 1);
        Check.due("a number is as long as can be", Check.told(x, "soil 11"), -6);
    }

    private static void faults() {
        String[] wrong = {
            "", "  ", ";", "5", "Coin of 0 size 1", "soil,", "x", "rotten",
            "coin 0", "coin of x", "coin of 4 size 1", "coin of 0 1", "coin of 0 size 100", "coin of 0 size rotten",
            "coin of 0 size 1 2", "coin of 0 size 1 sound", "coin of 0 size 1 rotten planted", "coin of 0 size 1 coin",
            "soil 4 1", "soil 0 10", "soil of", "soil 0 1 1", "price 12 1", "price 0 100", "price 0 1 ; ; soil 0 1",
            "loan 4 to 1 1 in 1", "loan 0 in", "loan 0 to 0 1 in 1", "loan 0 to 4 1 in 1", "loan 0 to 1 0 in 1",
            "loan 0 to 1 10000 in 1", "loan 0 to 1 1 to 1", "loan 0 to 1 1 in 0", "loan 0 to 1 1 in 121",
            "soil 0 1;", "soil 0 1; x", "soil 0 1\n", "soil 0 1 \u00e9", "soil 0 -1", "\tsoil 0 1", "coins of 0 size 1",
            "coi", "soil 0 1 ; loan 0 to 00 1 in 1", "foil 0 1", "bed of 0 size 1", "coin if 0 size 1", "coin of 0 size 1 gotten"};
        int[] places = {
            0, 2, 0, 0, 0, 4, 0, 0,
            5, 8, 8, 10, 15, 15,
            17, 17, 24, 17,
            5, 7, 5, 9, 6, 8, 12,
            5, 7, 10, 10, 12,
            12, 14, 17, 17,
            9, 10, 8, 9, 7, 0, 0,
            0, 21, 0, 0, 5, 17};
        SproutCoins x = new SproutCoins();
        for (int i = 0; i < wrong.length; i++) {
            Check.due("fault of '" + wrong[i] + "'", Check.told(x, wrong[i]), -1 - places[i]);
            Check.due("the tape is empty", x.wipe(), 0);
        }
        Check.due("no coin, no loan came", x.count(0) + x.count(1), 0);
        for (int owner = 0; owner < 4; owner++) {
            Check.due("no soil came", x.soil(owner, 5), 5);
        }
        for (int season = 0; season < 12; season++) {
            Check.due("no price came", x.price(season, 10), 10);
        }
        Check.due("a fault is no finding", x.status(-1), 0);
    }

    private static void tooMany() {
        SproutCoins x = new SproutCoins();
        for (int c = 0; c < 11; c++) {
            x.coin(0, 0, 1);
        }
        Check.due("a 13th", Check.told(x, "red of 0 size 1; sky of 0 size 2"), -18);
        Check.due("11 still", x.count(0), 11);
        Check.due("a 12th", Check.told(x, "red of 0 size 1; soil 0 1"), 2);
        Check.due("a 13th at once", Check.told(x, " red"), -2);
        for (int i = 0; i < 7; i++) {
            x.loan(0, 1, 1, 1);
        }
        Check.due("a 9th loan", Check.told(x, "loan 0 to 1 1 in 1;loan 0 to 1 1 in 1"), -20);
        Check.due("7 still", x.count(1), 7);
        Check.due("an 8th loan", Check.told(x, "loan 0 to 1 1 in 1"), 1);
        Check.due("a 9th at once", Check.told(x, "loan"), -1);
    }

    private static void endsEarly() {
        String[] texts = {"coin of 0 size 1", "soil 0 1", "price 0 1", "loan 0 to 1 1 in 1"};
        for (String text : texts) {
            for (int n = 0; n < text.length(); n++) {
                boolean wholeTokens = n == 0 || text.charAt(n) == ' ' || text.charAt(n - 1) == ' ';
                if (wholeTokens) {
                    SproutCoins x = new SproutCoins();
                    Check.due("'" + text.substring(0, n) + "'", Check.told(x, text.substring(0, n)), -1 - n);
                }
            }
        }
    }

    private static void lateLoans() {
        SproutCoins x = Check.inMonth(9990);
        Check.due("above 9999 or not", Check.told(x, "loan 0 to 1 5 in 120;loan 0 to 1 5 in 9"), 2);
        Check.due("its month", x.loanOf(0, 3), 10110);
        x.months(9);
        Check.due("never due", x.loanOf(0, 4) * 10 + x.loanOf(1, 4), 1);
    }
}
