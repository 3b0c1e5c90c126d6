/** Promises 1 to 11: a new object, soils, prices, and coins. */
public final class MarketTest {
    public static void main(String[] args) {
        newObject();
        soils();
        prices();
        newCoins();
        kindsOfCoins();
        setting();
        turning();
        asKinds();
        swapping();
        planting();
        purses();
        Check.finish("MarketTest");
    }

    private static void newObject() {
        SproutCoins x = new SproutCoins();
        for (int what = 0; what <= 4; what++) {
            Check.due("new: count(" + what + ")", x.count(what), 0);
        }
        for (int what = 0; what <= 5; what++) {
            Check.due("new: now(" + what + ")", x.now(what), 0);
        }
        Check.due("new: status(-1)", x.status(-1), 0);
        Check.due("new: of(0, 0)", x.of(0, 0), Check.BEYOND);
        Check.due("new: loanOf(0, 0)", x.loanOf(0, 0), Check.BEYOND);
        Check.due("new: undo()", x.undo(), Check.NONE);
        Check.due("new: tear()", x.tear(), 0);
        Check.due("new: wipe()", x.wipe(), 0);
        for (int s = 0; s < 4; s++) {
            Check.due("new: write(" + s + ", 0, 0)", x.write(s, 0, 0), Check.MISSING);
        }
    }

    private static void soils() {
        SproutCoins x = new SproutCoins();
        for (int owner = 0; owner < 4; owner++) {
            Check.due("soil at first", x.soil(owner, owner), 5);
            Check.due("soil was", x.soil(owner, 9), owner);
            Check.due("soil 0", x.soil(owner, 0), 9);
        }
        Check.due("soil(-1, 1)", x.soil(-1, 1), Check.BEYOND);
        Check.due("soil(4, 1)", x.soil(4, 1), Check.BEYOND);
        Check.due("soil(0, -1)", x.soil(0, -1), Check.BEYOND);
        Check.due("soil(0, 10)", x.soil(0, 10), Check.BEYOND);
        Check.due("soil stays", x.soil(0, 1), 0);
    }

    private static void prices() {
        SproutCoins x = new SproutCoins();
        for (int season = 0; season < 12; season++) {
            Check.due("price at first", x.price(season, season), 10);
            Check.due("price was", x.price(season, 99), season);
            Check.due("price 0", x.price(season, 0), 99);
        }
        Check.due("price(-1, 1)", x.price(-1, 1), Check.BEYOND);
        Check.due("price(12, 1)", x.price(12, 1), Check.BEYOND);
        Check.due("price(0, -1)", x.price(0, -1), Check.BEYOND);
        Check.due("price(0, 100)", x.price(0, 100), Check.BEYOND);
        Check.due("price stays", x.price(0, 1), 0);
    }

    private static void newCoins() {
        SproutCoins x = new SproutCoins();
        int[][] wrong = {{-1, 0, 0}, {6, 0, 0}, {0, -1, 0}, {0, 4, 0}, {0, 0, -1}, {0, 0, 100}};
        for (int[] w : wrong) {
            Check.due("coin beyond", x.coin(w[0], w[1], w[2]), Check.BEYOND);
        }
        for (int c = 0; c < 12; c++) {
            Check.due("coin's number", x.coin(c % 6, c % 4, 99 - c), c);
            Check.due("its kind", x.of(c, 0), c % 6);
            Check.due("its owner", x.of(c, 1), c % 4);
            Check.due("its size", x.of(c, 2), 99 - c);
            Check.due("it is sound", x.of(c, 3), 0);
        }
        Check.due("a 13th coin", x.coin(0, 0, 1), Check.FULL);
        Check.due("BEYOND is asked before FULL", x.coin(6, 0, 1), Check.BEYOND);
        Check.due("there are 12", x.count(0), 12);
    }

    private static void kindsOfCoins() {
        int[] winter = {1, 0, 2, 1, 3, 0};
        int[] spring = {3, 1, 6, 3, 7, 1};
        int[] yield = {5, 1, 5, 8, 0, 1};
        int[] turns = {1, 0, 1, 1, 1, 0};
        for (int month = 0; month < 24; month++) {
            SproutCoins x = Check.inMonth(month);
            int season = month % 12;
            x.price(season, 37);
            for (int k = 0; k < 6; k++) {
                String about = "month " + month + " kind " + k;
                int c = x.coin(k, 3, 29);
                x.soil(3, 0);
                Check.due(about + " worth", x.of(c, 4), 107);
                Check.due(about + " shrinks", x.of(c, 5), season >= 2 && season <= 4 ? spring[k] : winter[k]);
                Check.due(about + " yields", x.of(c, 6), yield[k]);
                Check.due(about + " turns", x.of(c, 7), turns[k]);
                x.soil(3, 9);
                Check.due(about + " yields on good soil", x.of(c, 6), k == 4 ? 0 : yield[k] + 9);
                for (int state = 1; state <= 2; state++) {
                    x.set(c, 3, state);
                    Check.due(about + " state", x.of(c, 3), state);
                    Check.due(about + " is worth nothing", x.of(c, 4), 0);
                    Check.due(about + " shrinks by its kind", x.of(c, 5), season >= 2 && season <= 4 ? spring[k] : winter[k]);
                }
            }
            Check.due("of(0, 8)", x.of(0, 8), Check.BEYOND);
            Check.due("of(0, -1)", x.of(0, -1), Check.BEYOND);
            Check.due("of(6, 0)", x.of(6, 0), Check.BEYOND);
            Check.due("of(-1, 0)", x.of(-1, 0), Check.BEYOND);
        }
    }

    private static void setting() {
        SproutCoins x = new SproutCoins();
        x.coin(0, 1, 20);
        Check.due("set owner", x.set(0, 1, 3), 1);
        Check.due("owner", x.of(0, 1), 3);
        Check.due("set size", x.set(0, 2, 0), 20);
        Check.due("set size 99", x.set(0, 2, 99), 0);
        Check.due("size", x.of(0, 2), 99);
        Check.due("set state", x.set(0, 3, 2), 0);
        Check.due("set state back", x.set(0, 3, 0), 2);
        int[][] wrong = {{-1, 1, 0}, {1, 1, 0}, {0, 0, 1}, {0, 4, 1}, {0, -1, 1}, {0, 1, -1}, {0, 1, 4},
            {0, 2, -1}, {0, 2, 100}, {0, 3, -1}, {0, 3, 3}};
        for (int[] w : wrong) {
            Check.due("set beyond", x.set(w[0], w[1], w[2]), Check.BEYOND);
        }
        Check.due("owner stays", x.of(0, 1), 3);
        Check.due("size stays", x.of(0, 2), 99);
        Check.due("state stays", x.of(0, 3), 0);
    }

    private static void turning() {
        SproutCoins x = new SproutCoins();
        x.coin(2, 1, 20);
        Check.due("turn", x.turn(0, 5), 2);
        Check.due("its kind", x.of(0, 0), 5);
        Check.due("turn to its own", x.turn(0, 5), 5);
        Check.due("turn to 0", x.turn(0, 0), 5);
        Check.due("all else stays", x.of(0, 2) * 100 + x.of(0, 1) * 10 + x.of(0, 3), 2010);
        int[][] wrong = {{-1, 0}, {1, 0}, {0, -1}, {0, 6}};
        for (int[] w : wrong) {
            Check.due("turn beyond", x.turn(w[0], w[1]), Check.BEYOND);
        }
    }

    private static void asKinds() {
        String[] under = {"0", "01", "02", "03", "024", "015"};
        for (int k = 0; k < 6; k++) {
            SproutCoins x = new SproutCoins();
            x.coin(k, 0, 40 + k);
            for (int as = 0; as < 6; as++) {
                boolean is = under[k].indexOf('0' + as) >= 0;
                Check.due("kind " + k + " as " + as, x.as(0, as), is ? 40 + k : Check.KIND);
            }
            Check.due("as(0, 6)", x.as(0, 6), Check.BEYOND);
            Check.due("as(0, -1)", x.as(0, -1), Check.BEYOND);
            Check.due("as(1, 0)", x.as(1, 0), Check.BEYOND);
            Check.due("as(-1, 0)", x.as(-1, 0), Check.BEYOND);
        }
    }

    private static void swapping() {
        SproutCoins x = new SproutCoins();
        x.coin(1, 2, 30);
        x.coin(4, 3, 50);
        x.set(1, 3, 2);
        Check.due("swap", x.swap(0, 1), 1);
        int[] first = {4, 3, 50, 2};
        int[] second = {1, 2, 30, 0};
        for (int what = 0; what < 4; what++) {
            Check.due("swapped of(0, " + what + ")", x.of(0, what), first[what]);
            Check.due("swapped of(1, " + what + ")", x.of(1, what), second[what]);
        }
        Check.due("one and the same", x.swap(1, 1), 1);
        Check.due("it stays", x.of(1, 2), 30);
        int[][] wrong = {{-1, 0}, {2, 0}, {0, -1}, {0, 2}, {2, 2}, {-1, -1}};
        for (int[] w : wrong) {
            Check.due("swap beyond", x.swap(w[0], w[1]), Check.BEYOND);
        }
    }

    private static void planting() {
        for (int month = 0; month < 24; month++) {
            SproutCoins x = Check.inMonth(month);
            x.coin(0, 0, 17);
            boolean may = month % 12 >= 2 && month % 12 <= 5;
            Check.due("plant in month " + month, x.plant(0), may ? 17 : Check.STATE);
            Check.due("its state", x.of(0, 3), may ? 2 : 0);
            Check.due("its size", x.of(0, 2), 17);
            Check.due("plant(1)", x.plant(1), Check.BEYOND);
            Check.due("plant(-1)", x.plant(-1), Check.BEYOND);
            x.set(0, 3, 1);
            Check.due("plant a rotten one", x.plant(0), Check.STATE);
            x.set(0, 3, 2);
            Check.due("plant a planted one", x.plant(0), Check.STATE);
        }
    }

    private static void purses() {
        SproutCoins x = new SproutCoins();
        x.price(0, 15);
        x.coin(0, 1, 3);
        x.coin(1, 1, 3);
        x.coin(2, 1, 99);
        x.coin(3, 1, 99);
        x.coin(4, 2, 7);
        x.set(2, 3, 1);
        x.set(3, 3, 2);
        Check.due("each is cut by itself", x.purse(1), 8);
        Check.due("purse(2)", x.purse(2), 10);
        Check.due("purse(0)", x.purse(0), 0);
        Check.due("purse(-1)", x.purse(-1), Check.BEYOND);
        Check.due("purse(4)", x.purse(4), Check.BEYOND);
    }
}
