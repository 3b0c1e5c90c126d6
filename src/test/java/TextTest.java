/** Promises 33 to 35: the tape, and a market told in a text. */
public final class TextTest {
    public static void main(String[] args) {
        feeding();
        wiping();
        items();
        tokens();
        faults();
        tooMany();
        endsEarly();
        lateLoans();
        bytes();
        numbers();
        wordsInEveryPlace();
        wholeTape();
        items120();
        Check.finish("TextTest");
    }

    private static void feeding() {
        SproutCoins x = new SproutCoins();
        int[] wrong = {-1, 0, 5};
        for (int n : wrong) {
            Check.due("feed beyond", x.feed(7, n), Check.BEYOND);
        }
        Check.due("the highest first", x.feed(0x7f730000 | 'o' << 8 | 'i', 2), 2);
        Check.due("one byte", x.feed(0x55555500 | 'l', 1), 3);
        Check.due("three of them", x.feed(0x11000000 | ' ' << 16 | '2' << 8 | ' ', 3), 6);
        Check.due("the last", x.feed('7', 1), 7);
        Check.due("not yet a soil", x.market(), -1);
        Check.due("the tape is empty", x.count(3), 0);
        x.feed(0x736f696c, 4);
        x.feed(0x20322037, 4);
        Check.due("soil 2 7", x.market(), 1);
        Check.due("it is", x.soil(2, 0), 7);
        for (int i = 1; i <= 29; i++) {
            Check.due("four more", x.feed(-1, 4), 4 * i);
        }
        Check.due("118", x.feed(-1, 2), 118);
        Check.due("three don't go in", x.feed(-1, 3), Check.FULL);
        Check.due("BEYOND first", x.feed(-1, 5), Check.BEYOND);
        Check.due("118 still", x.count(3), 118);
        Check.due("120", x.feed(-1, 2), 120);
        Check.due("one more", x.feed(-1, 1), Check.FULL);
    }

    private static void wiping() {
        SproutCoins x = new SproutCoins();
        Check.feed(x, "abcdefg");
        Check.due("seven", x.wipe(), 7);
        Check.due("none", x.wipe(), 0);
        Check.due("an item behind it alone", Check.told(x, "soil 0 1"), 1);
    }

    private static void items() {
        SproutCoins x = Check.inMonth(7);
        Check.due("all kinds", Check.told(x, "coin of 0 size 1;blue of 1 size 2 rotten;red of 2 size 3 planted;seed of 3 size 99;"
            + "boiled of 0 size 0;sky of 1 size 5"), 6);
        int[][] due = {{0, 0, 1, 0}, {1, 1, 2, 1}, {2, 2, 3, 2}, {3, 3, 99, 0}, {4, 0, 0, 0}, {5, 1, 5, 0}};
        for (int c = 0; c < 6; c++) {
            for (int what = 0; what < 4; what++) {
                Check.due("told of(" + c + ", " + what + ")", x.of(c, what), due[c][what]);
            }
        }
        Check.due("soil, price, loan", Check.told(x, "soil 3 9;price 11 99;loan 2 to 0 9999 in 120;loan 0 to 3 1 in 1"), 4);
        Check.due("soil", x.soil(3, 1), 9);
        Check.due("price", x.price(11, 1), 99);
        int[] loan = {2, 0, 9999, 127, 0};
        for (int what = 0; what < 5; what++) {
            Check.due("told loanOf(0, " + what + ")", x.loanOf(0, what), loan[what]);
        }
        Check.due("the second's month", x.loanOf(1, 3), 8);
        Check.due("the least and the most", Check.told(x, "soil 3 0;price 0 0;loan 3 to 2 1 in 1;sky of 3 size 0"), 4);
        Check.due("soil 0", x.soil(3, 1), 0);
        Check.due("price 0", x.price(0, 1), 0);
        Check.due("who owes", x.loanOf(2, 0), 3);
        Check.due("the later item stands", Check.told(x, "soil 1 2;soil 1 3"), 2);
        Check.due("it does", x.soil(1, 0), 3);
        Check.due("no finding", x.status(-1), 0);
    }

    private static void tokens() {
        SproutCoins x = new SproutCoins();
        Check.due("no blanks", Check.told(x, "coin of0size9;soil1 2"), 2);
        Check.due("many blanks", Check.told(x, "   coin  of 0   size 9  planted  ;  soil 1 2   "), 2);
        Check.due("zeros ahead", Check.told(x, "soil 0000000001 00000000000000000009"), 1);
        Check.due("it is 9", x.soil(1, 0), 9);
        Check.due("far above any int", Check.told(x, "soil 4294967297 1"), -6);
        Check.due("as long as can be", Check.told(x, "coinof 0 size 9"), -1);
        Check.due("a number and a word", Check.told(x, "coin of 0 size 9rotten"), 1);
        Check.due("a number is as long as can be", Check.told(x, "soil 11"), -6);
    }

    private static void faults() {
        String[] wrong = {
            "", "  ", ";", "5", "Coin of 0 size 1", "soil,", "x", "rotten",
            "coin 0", "coin of x", "coin of 4 size 1", "coin of 0 1", "coin of 0 size 100", "coin of 0 size rotten",
            "coin of 0 size 1 2", "coin of 0 size 1 sound", "coin of 0 size 1 rotten planted", "coin of 0 size 1 coin",
            "soil 4 1", "soil 0 10", "soil of", "soil 0 1 1", "price 12 1", "price 0 100", "price 0 1 ; ; soil 0 1",
            "loan 4 to 1 1 in 1", "loan 0 in", "loan 0 to 0 1 in 1", "loan 0 to 4 1 in 1", "loan 0 to 1 0 in 1",
            "loan 0 to 1 10000 in 1", "loan 0 to 1 1 to 1", "loan 0 to 1 1 in 0", "loan 0 to 1 1 in 121",
            "soil 0 1;", "soil 0 1; x", "soil 0 1\n", "soil 0 1 \u00e9", "soil 0 -1", "\tsoil 0 1", "coins of 0 size 1",
            "coi", "soil 0 1 ; loan 0 to 00 1 in 1", "foil 0 1", "bed of 0 size 1", "coin if 0 size 1", "coin of 0 size 1 gotten"};
        int[] places = {
            0, 2, 0, 0, 0, 4, 0, 0,
            5, 8, 8, 10, 15, 15,
            17, 17, 24, 17,
            5, 7, 5, 9, 6, 8, 12,
            5, 7, 10, 10, 12,
            12, 14, 17, 17,
            9, 10, 8, 9, 7, 0, 0,
            0, 21, 0, 0, 5, 17};
        SproutCoins x = new SproutCoins();
        for (int i = 0; i < wrong.length; i++) {
            Check.due("fault of '" + wrong[i] + "'", Check.told(x, wrong[i]), -1 - places[i]);
            Check.due("the tape is empty", x.wipe(), 0);
        }
        Check.due("no coin, no loan came", x.count(0) + x.count(1), 0);
        for (int owner = 0; owner < 4; owner++) {
            Check.due("no soil came", x.soil(owner, 5), 5);
        }
        for (int season = 0; season < 12; season++) {
            Check.due("no price came", x.price(season, 10), 10);
        }
        Check.due("a fault is no finding", x.status(-1), 0);
    }

    private static void tooMany() {
        SproutCoins x = new SproutCoins();
        for (int c = 0; c < 11; c++) {
            x.coin(0, 0, 1);
        }
        Check.due("a 13th", Check.told(x, "red of 0 size 1; sky of 0 size 2"), -18);
        Check.due("11 still", x.count(0), 11);
        Check.due("a 12th", Check.told(x, "red of 0 size 1; soil 0 1"), 2);
        Check.due("a 13th at once", Check.told(x, " red"), -2);
        for (int i = 0; i < 7; i++) {
            x.loan(0, 1, 1, 1);
        }
        Check.due("a 9th loan", Check.told(x, "loan 0 to 1 1 in 1;loan 0 to 1 1 in 1"), -20);
        Check.due("7 still", x.count(1), 7);
        Check.due("an 8th loan", Check.told(x, "loan 0 to 1 1 in 1"), 1);
        Check.due("a 9th at once", Check.told(x, "loan"), -1);
    }

    private static void endsEarly() {
        String[] texts = {"coin of 0 size 1", "soil 0 1", "price 0 1", "loan 0 to 1 1 in 1"};
        for (String text : texts) {
            for (int n = 0; n < text.length(); n++) {
                boolean wholeTokens = n == 0 || text.charAt(n) == ' ' || text.charAt(n - 1) == ' ';
                if (wholeTokens) {
                    SproutCoins x = new SproutCoins();
                    Check.due("'" + text.substring(0, n) + "'", Check.told(x, text.substring(0, n)), -1 - n);
                }
            }
        }
    }

    private static void lateLoans() {
        SproutCoins x = Check.inMonth(9990);
        Check.due("above 9999 or not", Check.told(x, "loan 0 to 1 5 in 120;loan 0 to 1 5 in 9"), 2);
        Check.due("its month", x.loanOf(0, 3), 10110);
        x.months(9);
        Check.due("never due", x.loanOf(0, 4) * 10 + x.loanOf(1, 4), 1);
    }

    /** Those bytes that lie next to letters, digits and the sign begin no TOKEN; a blank is the byte 32 alone. */
    private static void bytes() {
        for (int b = 0; b < 256; b++) {
            boolean letter = b >= 'a' && b <= 'z';
            SproutCoins ahead = new SproutCoins();
            ahead.feed(b, 1);
            Check.feed(ahead, "soil 0 1");
            Check.due("byte " + b + " ahead", ahead.market(), b == ' ' ? 1 : -1);
            SproutCoins between = new SproutCoins();
            Check.feed(between, "soil");
            between.feed(b, 1);
            Check.feed(between, "1 1");
            int due = letter ? -1 : b == ' ' || b == '0' ? 1 : -5;
            Check.due("byte " + b + " between", between.market(), due);
            SproutCoins behind = new SproutCoins();
            Check.feed(behind, "soil 0 1 ");
            behind.feed(b, 1);
            Check.due("byte " + b + " behind", behind.market(), b == ' ' ? 1 : b == ';' ? -11 : -10);
        }
    }

    /** Each NUMBER at both ends of what may be there, and beyond them. */
    private static void numbers() {
        String[] texts = {"coin of # size 1", "coin of 1 size #", "soil # 1", "soil 1 #", "price # 1", "price 1 #",
            "loan # to 3 1 in 1", "loan 0 to # 1 in 1", "loan 3 to # 1 in 1", "loan 0 to 1 # in 1", "loan 0 to 1 1 in #"};
        int[] least = {0, 0, 0, 0, 0, 0, 0, 1, 0, 1, 1};
        int[] most = {3, 99, 3, 9, 11, 99, 3, 3, 2, 9999, 120};
        for (int i = 0; i < texts.length; i++) {
            int place = texts[i].indexOf('#');
            number(texts[i], Integer.toString(least[i]), 1);
            // Whoever owes to 3 is another one.
            number(texts[i], Integer.toString(i == 6 ? 2 : most[i]), 1);
            number(texts[i], "00000" + least[i], 1);
            String[] refused = {Integer.toString(most[i] + 1), "9999", "10000", "2147483648", "4294967296", "99999999999999999999"};
            for (String n : refused) {
                if (Double.parseDouble(n) > most[i]) {
                    number(texts[i], n, -1 - place);
                }
            }
            if (least[i] == 1) {
                number(texts[i], "0", -1 - place);
                number(texts[i], "000", -1 - place);
            }
            number(texts[i], "-1", -1 - place);
            number(texts[i], "x", -1 - place);
            number(texts[i], ";", -1 - place);
        }
        number("loan # to 3 1 in 1", "3", -11);
        number("loan 2 to # 1 in 1", "2", -11);
        number("loan 2 to # 1 in 1", "002", -11);
    }

    private static void number(String text, String n, int due) {
        SproutCoins x = Check.inMonth(2);
        String told = text.replace("#", n);
        Check.due("'" + told + "'", Check.told(x, told), due);
        Check.due("'" + told + "': no finding", x.status(-1), 0);
    }

    /** Each TOKEN of each ITEM left out, and put twice: the FAULT is where the first one stands that can't. */
    private static void wordsInEveryPlace() {
        String[] texts = {"sky of 1 size 2 rotten", "soil 1 2", "price 1 2", "loan 1 to 2 3 in 4"};
        for (String text : texts) {
            String[] parts = text.split(" ");
            int place = 0;
            for (int i = 0; i < parts.length; i++) {
                String behind = text.substring(Math.min(text.length(), place + parts[i].length() + 1));
                SproutCoins x = new SproutCoins();
                boolean free = parts[i].equals("rotten");
                boolean alike = i + 1 < parts.length && isNumber(parts[i]) && isNumber(parts[i + 1]);
                if (!free && !alike) {
                    int due = -1 - place;
                    Check.due("'" + text + "' without " + parts[i], Check.told(x, text.substring(0, place) + behind), due);
                }
                if (!alike) {
                    String twice = text.substring(0, place) + parts[i] + " " + text.substring(place);
                    Check.due("'" + twice + "'", Check.told(x, twice), -1 - (place + parts[i].length() + 1));
                }
                place += parts[i].length() + 1;
            }
        }
        SproutCoins y = new SproutCoins();
        Check.due("both", Check.told(y, "coin of 0 size 1 planted rotten"), -26);
        Check.due("without is fine", Check.told(y, "sky of 1 size 2"), 1);
        Check.due("neither", Check.told(y, "sky of 1 size 2 sound"), -17);
        Check.due("names of KINDS alone", Check.told(y, "potato of 1 size 2"), -1);
        Check.due("no number as a name", Check.told(y, "1 of 1 size 2"), -1);
        Check.due("no two items without a sign", Check.told(y, "soil 1 2 soil 1 3"), -10);
        Check.due("no sign ahead", Check.told(y, " ;soil 1 2"), -2);
        Check.due("no two signs", Check.told(y, "soil 1 2;;soil 1 3"), -10);
        Check.due("no sign behind", Check.told(y, "soil 1 2 ; "), -12);
    }

    private static boolean isNumber(String token) {
        return token.charAt(0) >= '0' && token.charAt(0) <= '9';
    }

    /** A text may fill the tape to its last byte. */
    private static void wholeTape() {
        String item = "price 11 99;";
        SproutCoins x = new SproutCoins();
        Check.feed(x, item.repeat(9) + "price 011 98");
        Check.due("120 bytes", x.count(3), 120);
        Check.due("ten items", x.market(), 10);
        Check.due("the last stands", x.price(11, 10), 98);
        Check.feed(x, item.repeat(9) + "price 0011 9");
        Check.due("the last byte counts", x.market(), 10);
        Check.due("it does", x.price(11, 10), 9);
        Check.feed(x, item.repeat(10));
        Check.due("it ends too early at 120", x.market(), -121);
        Check.feed(x, " ".repeat(120));
        Check.due("blanks alone", x.market(), -121);
        Check.feed(x, "a".repeat(120));
        Check.due("one long word", x.market(), -1);
        Check.feed(x, "soil 3 " + "0".repeat(112) + "7");
        Check.due("one long number", x.market(), 1);
        Check.due("it is 7", x.soil(3, 5), 7);
        Check.feed(x, "soil 3 " + "1".repeat(113));
        Check.due("one too long", x.market(), -8);
    }

    /** A text of items without blanks where none must be: as many as the tape holds. */
    private static void items120() {
        SproutCoins x = new SproutCoins();
        String most = "soil1 2;".repeat(14) + "soil1 03";
        Check.feed(x, most);
        Check.due("fifteen items", x.market(), 15);
        Check.due("the last one stands", x.soil(1, 5), 3);
        Check.due("of twelve coins", Check.told(x, "red of1size1" + ";red of1size1".repeat(7)), 8);
        Check.due("of twelve coins", Check.told(x, "red of1size1" + ";red of1size1".repeat(3)), 4);
        Check.due("twelve", x.count(0), 12);
        Check.due("a 13th", Check.told(x, "soil 1 2;red of1size1"), -10);
        Check.due("all but the name is wrong, but the name is first", Check.told(x, "red red red"), -1);
        Check.due("soils and prices still come", Check.told(x, "soil 1 2;price 1 2"), 2);
        for (int i = 0; i < 8; i++) {
            Check.due("eight loans", Check.told(x, "loan 0 to 1 1 in 1"), 1);
        }
        Check.due("a 9th", Check.told(x, "soil 1 2;loan 0 to 1 1 in 1"), -10);
        Check.due("a 9th, and wrong besides", Check.told(x, "loan loan"), -1);
        Check.due("no finding", x.status(-1), 0);
    }
}
