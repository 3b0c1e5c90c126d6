/** Promises 20 to 25: what is ON so many months, and that nothing changes by the question. */
public final class OnTest {
    public static void main(String[] args) {
        asMonthsGo();
        rots();
        when();
        rich();
        lacks();
        wrongInputs();
        tooLate();
        Check.finish("OnTest");
    }

    private static SproutCoins someMarket() {
        SproutCoins x = Check.inMonth(3);
        x.coin(0, 0, 60);
        x.coin(1, 1, 40);
        x.coin(2, 2, 80);
        x.coin(3, 3, 9);
        x.coin(5, 0, 33);
        x.set(3, 3, 2);
        x.price(6, 25);
        x.loan(0, 1, 45, 3);
        x.loan(2, 3, 900, 5);
        return x;
    }

    private static void asMonthsGo() {
        int[] ns = {0, 1, 3, 5, 6, 14, 120};
        for (int n : ns) {
            SproutCoins asked = someMarket();
            SproutCoins gone = someMarket();
            if (n > 0) {
                gone.months(n);
            }
            for (int c = 0; c < 5; c++) {
                Check.due("on(" + c + ", " + n + ")", asked.on(c, n), gone.of(c, 2));
            }
            for (int owner = 0; owner < 4; owner++) {
                Check.due("purseOn(" + owner + ", " + n + ")", asked.purseOn(owner, n), gone.purse(owner));
            }
            Check.due("lacks(" + n + ")", asked.lacks(n), gone.now(2));
            Check.due("nothing changed: month", asked.now(0), 3);
            Check.due("nothing changed: sizes", asked.count(4), 222);
            Check.due("nothing changed: loans", asked.count(2), 2);
            Check.due("nothing changed: purse", asked.purse(0), 93);
        }
    }

    private static void rots() {
        SproutCoins x = new SproutCoins();
        x.coin(0, 0, 5);
        x.coin(1, 0, 60);
        x.coin(0, 0, 99);
        x.set(2, 3, 1);
        x.coin(1, 0, 30);
        x.coin(1, 0, 31);
        Check.due("5: 1, 1, 3", x.rots(0), 3);
        Check.due("60 blue in 120 months", x.rots(1), Check.NONE);
        Check.due("rotten now", x.rots(2), 0);
        Check.due("30 blue: the tenth April", x.rots(3), 113);
        Check.due("31 blue", x.rots(4), Check.NONE);
        SproutCoins y = Check.inMonth(4);
        y.coin(1, 0, 31);
        Check.due("31 blue from May: 1, and 30 in ten springs: 121", y.rots(0), Check.NONE);
        y.set(0, 2, 30);
        Check.due("30 blue from May", y.rots(0), 120);
        y.set(0, 2, 29);
        Check.due("29 blue from May", y.rots(0), 119);
    }

    private static void when() {
        SproutCoins x = new SproutCoins();
        x.coin(1, 0, 50);
        Check.due("of several the fewest", x.when(0), 0);
        x.price(1, 11);
        x.price(5, 11);
        Check.due("next month", x.when(0), 1);
        x.price(0, 99);
        Check.due("now", x.when(0), 0);
        x.price(0, 10);
        x.months(1);
        x.price(1, 10);
        x.price(5, 10);
        x.coin(3, 0, 2);
        x.set(1, 3, 2);
        Check.due("when it is back", x.when(1), 8);
        SproutCoins y = new SproutCoins();
        y.coin(0, 0, 2);
        y.set(0, 3, 1);
        Check.due("rotten: never", y.when(0), 0);
        SproutCoins z = Check.inMonth(9);
        z.coin(1, 0, 9);
        z.set(0, 3, 2);
        Check.due("within 24 months", z.when(0), 12);
        z.price(9, 0);
        z.price(8, 99);
        Check.due("the 23rd", z.when(0), 23);
        SproutCoins second = Check.inMonth(9);
        second.coin(1, 0, 9);
        second.set(0, 3, 2);
        for (int season = 0; season < 12; season++) {
            second.price(season, 0);
        }
        Check.due("no price: now", second.when(0), 0);
        second.price(9, 1);
        Check.due("worth 5 in a year and in two", second.when(0), 12);
    }

    private static void rich() {
        SproutCoins x = new SproutCoins();
        x.coin(0, 3, 10);
        x.coin(1, 2, 9);
        x.coin(1, 1, 9);
        Check.due("rich now", x.rich(0), 3);
        Check.due("of several the least", x.rich(1), 1);
        Check.due("of two the least", x.rich(2), 1);
        x.loan(1, 0, 1, 2);
        Check.due("loans are paid", x.rich(2), 0);
        Check.due("nothing changed", x.rich(0), 3);
    }

    private static void lacks() {
        SproutCoins x = new SproutCoins();
        x.pay(0, 1, 50);
        x.loan(2, 0, 30, 2);
        x.loan(3, 0, 4, 120);
        Check.due("lacks(0)", x.lacks(0), 0);
        Check.due("lacks(1)", x.lacks(1), 0);
        Check.due("lacks(2)", x.lacks(2), 30);
        Check.due("lacks(120)", x.lacks(120), 34);
        Check.due("lacked now", x.now(2), 50);
    }

    private static void wrongInputs() {
        SproutCoins x = new SproutCoins();
        x.coin(0, 0, 10);
        int[][] pairs = {{-1, 0}, {4, 0}, {0, -1}, {0, 121}};
        for (int[] p : pairs) {
            Check.due("on beyond", x.on(p[0], p[1]), Check.BEYOND);
            Check.due("purseOn beyond", x.purseOn(p[0], p[1]), Check.BEYOND);
        }
        Check.due("on(1, 0)", x.on(1, 0), Check.BEYOND);
        int[] ns = {-1, 121};
        for (int n : ns) {
            Check.due("rich beyond", x.rich(n), Check.BEYOND);
            Check.due("lacks beyond", x.lacks(n), Check.BEYOND);
        }
        int[] coins = {-1, 1};
        for (int c : coins) {
            Check.due("rots beyond", x.rots(c), Check.BEYOND);
            Check.due("when beyond", x.when(c), Check.BEYOND);
        }
    }

    private static void tooLate() {
        SproutCoins x = Check.inMonth(9879);
        x.coin(1, 0, 99);
        x.coin(1, 0, 99);
        x.set(1, 3, 1);
        Check.due("rots at 9879", x.rots(0), Check.NONE);
        Check.due("on 120", x.on(0, 120), 69);
        Check.due("purseOn 120", x.purseOn(0, 120), 69);
        Check.due("rich 120", x.rich(120), 0);
        Check.due("lacks 120", x.lacks(120), 0);
        x.months(1);
        Check.due("rots at 9880", x.rots(0), Check.STATE);
        Check.due("rots of a rotten one at 9880", x.rots(1), Check.STATE);
        Check.due("rots: BEYOND first", x.rots(2), Check.BEYOND);
        Check.due("on 120 then", x.on(0, 120), Check.STATE);
        Check.due("on 119 then", x.on(0, 119), 69);
        Check.due("purseOn 120 then", x.purseOn(0, 120), Check.STATE);
        Check.due("rich 120 then", x.rich(120), Check.STATE);
        Check.due("lacks 120 then", x.lacks(120), Check.STATE);
        x.months(95);
        Check.due("when at 9975", x.when(0), 0);
        x.months(1);
        Check.due("when at 9976", x.when(0), Check.STATE);
        Check.due("when: BEYOND first", x.when(2), Check.BEYOND);
    }
}
