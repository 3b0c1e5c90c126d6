/** Promises 26 to 32: what is best to do. */
public final class AdviceTest {
    public static void main(String[] args) {
        best();
        kind();
        cellar();
        field();
        fieldWithLoans();
        priceFor();
        taxMonth();
        bank();
        Check.finish("AdviceTest");
    }

    private static void best() {
        SproutCoins x = Check.inMonth(5);
        x.coin(0, 0, 20);
        x.coin(1, 0, 20);
        Check.due("shrinks: spent", x.best(0, 3), 1);
        Check.due("shrinks in one month: spent", x.best(0, 1), 1);
        Check.due("stays: kept, the least of several", x.best(1, 3), 0);
        Check.due("planted, and back in autumn", x.best(0, 4), 2);
        x.price(9, 2);
        Check.due("99 times 2 is 19, less than 20", x.best(0, 4), 1);
        x.price(9, 3);
        Check.due("99 times 3 is 29", x.best(0, 4), 2);
        x.price(9, 99);
        x.soil(0, 0);
        x.turn(0, 4);
        Check.due("boiled: kept, for planted it yields none", x.best(0, 4), 0);
        x.turn(0, 0);
        x.set(0, 2, 99);
        Check.due("99 planted is 99", x.best(0, 4), 2);
        x.turn(0, 1);
        Check.due("99 blue kept is 99 too", x.best(0, 4), 0);
        x.months(1);
        x.turn(0, 0);
        Check.due("too late to plant: kept for the price", x.best(0, 3), 0);
        x.set(0, 3, 1);
        Check.due("rotten", x.best(0, 3), Check.STATE);
        x.set(0, 3, 2);
        Check.due("planted", x.best(0, 3), Check.STATE);
        int[][] wrong = {{-1, 1}, {2, 1}, {1, 0}, {1, 25}, {0, 25}};
        for (int[] w : wrong) {
            Check.due("best beyond", x.best(w[0], w[1]), Check.BEYOND);
        }
        SproutCoins y = Check.inMonth(9975);
        y.coin(4, 0, 9);
        Check.due("till 9999", y.best(0, 24), 1);
        y.months(1);
        Check.due("till 10000", y.best(0, 24), Check.STATE);
        SproutCoins z = Check.inMonth(2);
        z.coin(0, 0, 9);
        z.coin(0, 0, 9);
        z.set(1, 3, 1);
        z.price(9, 40);
        Check.due("a planted one doesn't turn", z.best(0, 7), 2);
    }

    private static void kind() {
        SproutCoins x = new SproutCoins();
        x.coin(4, 0, 20);
        Check.due("blue shrinks least, and is less than sky", x.kind(0, 1), 1);
        x.set(0, 3, 1);
        Check.due("rotten: all alike", x.kind(0, 5), 0);
        x.set(0, 3, 2);
        x.set(0, 2, 1);
        Check.due("planted: all alike before autumn", x.kind(0, 8), 0);
        Check.due("planted: seed", x.kind(0, 9), 3);
        Check.due("planted: blue at last", x.kind(0, 26), 1);
        Check.due("it stays what it is", x.of(0, 0), 4);
        int[][] wrong = {{-1, 1}, {1, 1}, {0, 0}, {0, 121}};
        for (int[] w : wrong) {
            Check.due("kind beyond", x.kind(w[0], w[1]), Check.BEYOND);
        }
        SproutCoins y = Check.inMonth(9879);
        y.coin(0, 0, 99);
        y.coin(0, 0, 9);
        y.set(1, 3, 1);
        Check.due("till 9999, beside a rotten one", y.kind(0, 120), 1);
        y.months(1);
        Check.due("till 10000", y.kind(0, 120), Check.STATE);
    }

    private static void cellar() {
        SproutCoins x = new SproutCoins();
        for (int c = 0; c < 5; c++) {
            x.coin(0, 0, 90);
        }
        x.set(2, 3, 1);
        Check.due("the rotten one to the end: first of several", x.cellar(1), 2);
        Check.due("the rotten one to the end for two months", x.cellar(2), 2);
        Check.due("all turn in four months whatever is done", x.cellar(4), Check.NONE);
        x.turn(1, 1);
        Check.due("behind the blue one", x.cellar(3), 2);
        Check.due("behind the blue one for long", x.cellar(5), 2);
        Check.due("nothing changed", x.of(2, 3), 1);
        SproutCoins none = new SproutCoins();
        none.coin(0, 0, 90);
        none.coin(0, 0, 90);
        Check.due("none is rotten: no change leaves more", none.cellar(10), Check.NONE);
        SproutCoins last = new SproutCoins();
        for (int c = 0; c < 12; c++) {
            last.coin(c == 11 ? 1 : 0, 0, 90);
        }
        last.set(10, 3, 1);
        Check.due("a number of four digits", last.cellar(1), 1011);
        int[] wrong = {-1, 0, 61};
        for (int n : wrong) {
            Check.due("cellar beyond", x.cellar(n), Check.BEYOND);
        }
        SproutCoins late = Check.inMonth(9939);
        Check.due("till 9999", late.cellar(60), Check.NONE);
        late.months(1);
        Check.due("till 10000", late.cellar(60), Check.STATE);
        Check.due("till 10000: BEYOND first", late.cellar(61), Check.BEYOND);
    }

    private static void field() {
        SproutCoins x = Check.inMonth(2);
        x.coin(0, 1, 20);
        x.coin(1, 1, 99);
        x.coin(3, 1, 50);
        x.coin(4, 1, 90);
        x.coin(0, 2, 20);
        Check.due("back in seven months: all but the boiled one", x.field(1, 7), 7);
        Check.due("not back in six: none", x.field(1, 6), 0);
        Check.due("of another owner", x.field(2, 7), 16);
        Check.due("who has none", x.field(0, 7), 0);
        Check.due("nothing changed", x.now(5), 0);
        x.price(9, 0);
        Check.due("worth nothing then: of several the least", x.field(1, 7), 0);
        x.price(9, 10);
        x.set(0, 3, 1);
        Check.due("not the rotten one", x.field(1, 7), 6);
        x.set(0, 3, 0);
        x.set(2, 2, 5);
        Check.due("planted it does not turn the one beside it", x.field(1, 6), 4);
        for (int c = 0; c < 7; c++) {
            x.coin(1, 3, 10);
        }
        Check.due("seven are too many", x.field(3, 7), Check.SIZE);
        x.set(11, 3, 2);
        Check.due("six are not", x.field(3, 7), 63 << 5);
        int[][] wrong = {{-1, 1}, {4, 1}, {0, 0}, {0, 25}};
        for (int[] w : wrong) {
            Check.due("field beyond", x.field(w[0], w[1]), Check.BEYOND);
        }
        for (int month = 0; month < 12; month++) {
            SproutCoins y = Check.inMonth(month);
            Check.due("field in month " + month, y.field(0, 1), month >= 2 && month <= 5 ? 0 : Check.STATE);
        }
        SproutCoins one = Check.inMonth(2);
        one.coin(0, 0, 5);
        one.coin(1, 1, 9);
        one.coin(4, 0, 1);
        Check.due("with the boiled one as much: the least", one.field(0, 7), 1);
        SproutCoins late = Check.inMonth(9988);
        Check.due("till 9999", late.field(0, 11), 0);
        Check.due("till 10000", late.field(0, 12), Check.STATE);
        for (int c = 0; c < 7; c++) {
            late.coin(1, 3, 10);
        }
        Check.due("STATE before SIZE", late.field(3, 12), Check.STATE);
        Check.due("SIZE", late.field(3, 11), Check.SIZE);
    }

    private static void fieldWithLoans() {
        SproutCoins x = Check.inMonth(5);
        x.coin(1, 0, 50);
        x.coin(1, 0, 99);
        x.loan(0, 1, 40, 1);
        Check.due("both are hidden in the field from the loan", x.field(0, 4), 3);
        x.loan(1, 0, 10, 2);
        x.coin(1, 1, 10);
        Check.due("still", x.field(0, 4), 3);
    }

    private static void priceFor() {
        SproutCoins x = new SproutCoins();
        x.coin(0, 0, 7);
        x.coin(0, 0, 7);
        x.coin(0, 1, 99);
        x.price(0, 50);
        Check.due("0 is nothing", x.priceFor(0, 0), 0);
        Check.due("each is cut by itself", x.priceFor(0, 1), 2);
        Check.due("2 as well", x.priceFor(0, 2), 2);
        Check.due("3 is more", x.priceFor(0, 3), 3);
        Check.due("the most", x.priceFor(0, 138), 99);
        Check.due("one more", x.priceFor(0, 139), Check.NONE);
        Check.due("980 at 99", x.priceFor(1, 980), 99);
        Check.due("it stays what it was", x.price(0, 50), 50);
        int[][] wrong = {{-1, 1}, {4, 1}, {0, -1}, {0, 10000}};
        for (int[] w : wrong) {
            Check.due("priceFor beyond", x.priceFor(w[0], w[1]), Check.BEYOND);
        }
        Check.due("9999", x.priceFor(0, 9999), Check.NONE);
    }

    private static void taxMonth() {
        SproutCoins x = new SproutCoins();
        x.coin(0, 0, 99);
        Check.due("the later the better", x.taxMonth(), 11);
        Check.due("nothing changed", x.of(0, 0), 0);
        x.turn(0, 4);
        Check.due("boiled already: of several the least", x.taxMonth(), 0);
        SproutCoins y = Check.inMonth(5);
        y.coin(0, 0, 9);
        y.set(0, 3, 2);
        Check.due("while all are planted", y.taxMonth(), 0);
        SproutCoins z = Check.inMonth(5);
        z.coin(4, 0, 99);
        z.coin(0, 1, 90);
        Check.due("one boiled, one not: the last month", z.taxMonth(), 11);
        z.loan(1, 0, 1, 3);
        Check.due("when both are his whose boiled one is greater still", z.taxMonth(), 3);
        SproutCoins late = Check.inMonth(9987);
        Check.due("at 9987", late.taxMonth(), 0);
        late.months(1);
        Check.due("at 9988", late.taxMonth(), Check.STATE);
    }

    private static void bank() {
        SproutCoins x = new SproutCoins();
        Check.due("none", x.bank(), Check.NONE);
        x.coin(0, 0, 9);
        x.coin(1, 2, 9);
        Check.due("one", x.bank(), 2);
        x.coin(5, 1, 9);
        Check.due("of several the least", x.bank(), 1);
        x.coin(5, 2, 9);
        Check.due("most", x.bank(), 2);
        x.set(3, 3, 2);
        Check.due("sound ones alone", x.bank(), 1);
        x.set(2, 3, 1);
        x.set(1, 3, 1);
        Check.due("none is sound", x.bank(), Check.NONE);
        SproutCoins first = new SproutCoins();
        first.coin(5, 0, 9);
        first.coin(1, 3, 9);
        Check.due("owner 0", first.bank(), 0);
    }
}
