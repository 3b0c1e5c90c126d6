/** Promises 12 to 17: payments, loans, the tax. */
public final class PaymentTest {
    public static void main(String[] args) {
        leastLost();
        worthOne();
        allGo();
        payBeyond();
        whichAndOver();
        loans();
        loansFallDue();
        tax();
        Check.finish("PaymentTest");
    }

    private static void leastLost() {
        SproutCoins x = new SproutCoins();
        int[] sizes = {50, 30, 20, 20, 7};
        for (int size : sizes) {
            x.coin(0, 0, size);
        }
        Check.due("50: one alone is the least set", x.which(0, 50), 1);
        Check.due("40: two of 20", x.which(0, 40), 12);
        Check.due("20: the least set of two", x.which(0, 20), 4);
        Check.due("28: 30 loses more than none", x.which(0, 28), 2);
        Check.due("27: one of 20 and 7", x.which(0, 27), 20);
        Check.due("1: the least coin", x.which(0, 1), 16);
        Check.due("127: all", x.which(0, 127), 31);
        Check.due("pay 27", x.pay(0, 3, 27), 20);
        Check.due("that one's then", x.of(2, 1) * 10 + x.of(4, 1), 33);
        Check.due("the others stay", x.of(0, 1) + x.of(1, 1) + x.of(3, 1), 0);
        Check.due("nothing is lacked", x.now(2), 0);
        x.set(0, 3, 1);
        x.set(1, 3, 2);
        Check.due("rotten and planted ones don't go", x.pay(0, 1, 5), 8);
        Check.due("a coin worth nothing doesn't go with the least set", noneWorthNothing(), 4);
    }

    private static void worthOne() {
        SproutCoins x = new SproutCoins();
        x.coin(0, 0, 1);
        x.coin(0, 0, 1);
        x.coin(0, 0, 5);
        Check.due("two of 1", x.which(0, 2), 3);
        Check.due("5 and 1", x.which(0, 6), 5);
        Check.due("none over", x.over(0, 7), 0);
    }

    private static int noneWorthNothing() {
        SproutCoins x = new SproutCoins();
        x.coin(0, 0, 0);
        x.coin(0, 0, 0);
        x.coin(0, 0, 9);
        return x.pay(0, 1, 9);
    }

    private static void allGo() {
        SproutCoins x = new SproutCoins();
        x.coin(0, 2, 10);
        x.coin(0, 2, 0);
        x.coin(0, 2, 40);
        x.coin(0, 1, 40);
        x.set(2, 3, 1);
        Check.due("all sound ones go, one worth nothing too", x.pay(2, 0, 11), 3);
        Check.due("lacked", x.now(2), 1);
        Check.due("the rotten one stays", x.of(2, 1), 2);
        Check.due("who has nothing", x.pay(2, 0, 9999), 0);
        Check.due("lacked together", x.now(2), 10000);
        Check.due("to the point", x.pay(0, 3, 10), 1);
        Check.due("lacked no more", x.now(2), 10000);
    }

    private static void payBeyond() {
        SproutCoins x = new SproutCoins();
        x.coin(0, 0, 10);
        int[][] wrong = {{-1, 1, 1}, {4, 1, 1}, {0, -1, 1}, {0, 4, 1}, {0, 0, 1}, {0, 1, 0}, {0, 1, 10000}, {0, 1, -5}};
        for (int[] w : wrong) {
            Check.due("pay beyond", x.pay(w[0], w[1], w[2]), Check.BEYOND);
        }
        int[][] unasked = {{-1, 1}, {4, 1}, {0, 0}, {0, 10000}, {0, -1}};
        for (int[] w : unasked) {
            Check.due("which beyond", x.which(w[0], w[1]), Check.BEYOND);
            Check.due("over beyond", x.over(w[0], w[1]), Check.BEYOND);
        }
        Check.due("nothing went", x.purse(0), 10);
        Check.due("nothing is lacked", x.now(2), 0);
    }

    private static void whichAndOver() {
        SproutCoins x = new SproutCoins();
        for (int c = 0; c < 12; c++) {
            x.coin(0, 0, 99);
        }
        x.price(0, 99);
        Check.due("eleven of twelve", x.which(0, 9999), 2047);
        Check.due("over", x.over(0, 9999), 781);
        Check.due("over to the point", x.over(0, 980), 0);
        Check.due("over by 979", x.over(0, 981), 979);
        Check.due("nothing changed", x.purse(0), 11760);
        x.price(0, 0);
        Check.due("worth nothing: all", x.which(0, 1), 4095);
        Check.due("worth nothing: lacks", x.over(0, 7), -7);
    }

    private static void loans() {
        SproutCoins x = new SproutCoins();
        int[][] wrong = {{-1, 1, 1, 1}, {4, 1, 1, 1}, {0, -1, 1, 1}, {0, 4, 1, 1}, {2, 2, 1, 1}, {0, 1, 0, 1},
            {0, 1, 10000, 1}, {0, 1, 1, 0}, {0, 1, 1, 121}};
        for (int[] w : wrong) {
            Check.due("loan beyond", x.loan(w[0], w[1], w[2], w[3]), Check.BEYOND);
        }
        for (int i = 0; i < 8; i++) {
            Check.due("loan's number", x.loan(i % 4, (i + 1) % 4, 9999 - i, 120 - i), i);
            int[] told = {i % 4, (i + 1) % 4, 9999 - i, 120 - i, 0};
            for (int what = 0; what < 5; what++) {
                Check.due("loanOf(" + i + ", " + what + ")", x.loanOf(i, what), told[what]);
            }
        }
        Check.due("a 9th loan", x.loan(0, 1, 1, 1), Check.FULL);
        Check.due("BEYOND before FULL", x.loan(0, 1, 1, 121), Check.BEYOND);
        Check.due("loanOf(8, 0)", x.loanOf(8, 0), Check.BEYOND);
        Check.due("loanOf(-1, 0)", x.loanOf(-1, 0), Check.BEYOND);
        Check.due("loanOf(0, 5)", x.loanOf(0, 5), Check.BEYOND);
        Check.due("loanOf(0, -1)", x.loanOf(0, -1), Check.BEYOND);
        SproutCoins late = Check.inMonth(9900);
        Check.due("till 9999", late.loan(0, 1, 1, 99), 0);
        Check.due("its month", late.loanOf(0, 3), 9999);
        Check.due("till 10000", late.loan(0, 1, 1, 100), Check.STATE);
        for (int i = 1; i < 8; i++) {
            late.loan(0, 1, 1, 1);
        }
        Check.due("STATE before FULL", late.loan(0, 1, 1, 100), Check.STATE);
        Check.due("FULL", late.loan(0, 1, 1, 99), Check.FULL);
    }

    private static void loansFallDue() {
        SproutCoins x = new SproutCoins();
        x.coin(1, 0, 20);
        x.coin(1, 0, 30);
        x.price(1, 20);
        x.loan(0, 1, 41, 1);
        x.loan(0, 2, 40, 1);
        x.loan(1, 3, 1, 1);
        x.loan(3, 0, 1, 2);
        x.months(1);
        Check.due("by the price of the season then", x.of(1, 1) * 10 + x.of(0, 1), 32);
        for (int i = 0; i < 4; i++) {
            Check.due("loan " + i + " paid", x.loanOf(i, 4), i < 3 ? 1 : 0);
        }
        Check.due("not paid", x.count(2), 1);
        x.months(1);
        Check.due("the fourth", x.of(1, 1), 0);
        Check.due("all paid", x.count(2), 0);
        Check.due("none lacked", x.now(2), 0);
        x.loan(3, 0, 5, 1);
        x.months(1);
        Check.due("paid, though it lacks", x.loanOf(4, 4), 1);
        Check.due("lacked", x.now(2), 5);
        x.months(12);
        Check.due("once only", x.now(2), 5);
    }

    private static void tax() {
        SproutCoins x = new SproutCoins();
        Check.due("of nobody", x.tax(), 0);
        x.coin(0, 0, 20);
        x.coin(1, 0, 30);
        x.coin(2, 0, 30);
        x.coin(3, 1, 99);
        x.coin(5, 1, 1);
        x.coin(0, 2, 5);
        x.coin(4, 3, 8);
        x.set(3, 3, 2);
        x.set(5, 3, 1);
        Check.due("of three, one boiled before", x.tax(), 3);
        int[] kinds = {0, 4, 2, 3, 4, 0, 4};
        for (int c = 0; c < 7; c++) {
            Check.due("kind of " + c, x.of(c, 0), kinds[c]);
            Check.due("owner and size stay " + c, x.of(c, 3), c == 3 ? 2 : c == 5 ? 1 : 0);
        }
        x.price(0, 0);
        Check.due("worth nothing, still the greatest", x.tax(), 3);
        Check.due("the least number", x.of(0, 0), 4);
    }
}
