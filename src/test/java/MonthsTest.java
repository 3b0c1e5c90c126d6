/** Promises 18 and 19: months go; what is now. */
public final class MonthsTest {
    public static void main(String[] args) {
        shrinking();
        rotting();
        turningInTheCellar();
        harvest();
        edges();
        nows();
        Check.finish("MonthsTest");
    }

    private static void shrinking() {
        int[] after = {81, 96, 63, 81, 51, 96};
        for (int kind = 0; kind < 6; kind++) {
            SproutCoins x = new SproutCoins();
            x.coin(kind, 0, 99);
            Check.due("none rots", x.months(12), 0);
            Check.due("kind " + kind + " after a year", x.of(0, 2), after[kind]);
        }
    }

    private static void rotting() {
        SproutCoins x = new SproutCoins();
        x.coin(0, 0, 2);
        x.coin(1, 0, 0);
        x.coin(5, 0, 0);
        x.coin(4, 0, 2);
        Check.due("of size 0, and what shrinks by more than it is", x.months(1), 3);
        Check.due("0 at least", x.of(3, 2), 0);
        Check.due("still sound", x.of(0, 3), 0);
        Check.due("1 less", x.of(0, 2), 1);
        Check.due("the last", x.months(1), 1);
        Check.due("no more", x.months(120), 0);
    }

    private static void turningInTheCellar() {
        SproutCoins x = new SproutCoins();
        int[] kinds = {0, 2, 3, 0, 1, 0, 5, 4};
        for (int kind : kinds) {
            x.coin(kind, 0, 90);
        }
        x.set(2, 3, 1);
        Check.due("both beside it", x.months(1), 2);
        Check.due("1 and 3", x.of(1, 3) + x.of(3, 3), 2);
        Check.due("shrunk all the same", x.of(3, 2), 89);
        Check.due("not yet 0, not 4", x.of(0, 3) + x.of(4, 3), 0);
        Check.due("0 now, a blue one stops it", x.months(1), 1);
        Check.due("no further", x.months(3), 0);
        x.set(7, 3, 1);
        Check.due("a sky one stops it too", x.months(3), 0);
        SproutCoins y = new SproutCoins();
        y.coin(0, 0, 1);
        y.coin(0, 0, 50);
        Check.due("one that rots in the month turns none in it", y.months(1), 1);
        Check.due("but in the next", y.months(1), 1);
        SproutCoins z = Check.inMonth(7);
        z.coin(0, 0, 50);
        z.coin(0, 0, 5);
        z.set(0, 3, 1);
        z.set(1, 3, 2);
        Check.due("a planted one does not turn", z.months(2), 0);
        Check.due("it is back", z.of(1, 3), 0);
        Check.due("and turns then", z.months(1), 1);
    }

    private static void harvest() {
        int[] size = {10, 6, 10, 13, 0, 6};
        for (int kind = 0; kind < 6; kind++) {
            SproutCoins x = Check.inMonth(8);
            x.coin(kind, 0, 1);
            x.coin(kind, 0, 99);
            x.coin(kind, 0, 0);
            for (int c = 0; c < 3; c++) {
                x.set(c, 3, 2);
            }
            Check.due("rotten by it", x.months(1), kind == 4 ? 3 : 1);
            Check.due("kind " + kind, x.of(0, 2), size[kind]);
            Check.due("99 at most", x.of(1, 2), kind == 4 ? 0 : 99);
            Check.due("sound, or rotten of 0", x.of(0, 3), kind == 4 ? 1 : 0);
            Check.due("of 0", x.of(2, 3), 1);
        }
        SproutCoins y = Check.inMonth(9);
        y.coin(3, 2, 2);
        y.soil(2, 0);
        y.set(0, 3, 2);
        Check.due("planted till the next autumn", y.months(11), 0);
        Check.due("as it was", y.of(0, 2) * 10 + y.of(0, 3), 22);
        y.months(1);
        Check.due("by the soil of its owner", y.of(0, 2), 16);
    }

    private static void edges() {
        SproutCoins x = new SproutCoins();
        Check.due("months(0)", x.months(0), Check.BEYOND);
        Check.due("months(-1)", x.months(-1), Check.BEYOND);
        Check.due("months(121)", x.months(121), Check.BEYOND);
        Check.due("months(120)", x.months(120), 0);
        Check.due("month", x.now(0), 120);
        SproutCoins y = Check.inMonth(9990);
        Check.due("months(10)", y.months(10), Check.STATE);
        Check.due("months(121) is BEYOND first", y.months(121), Check.BEYOND);
        Check.due("months(9)", y.months(9), 0);
        Check.due("the last month", y.now(0), 9999);
        Check.due("its season", y.now(1), 3);
        Check.due("months(1)", y.months(1), Check.STATE);
    }

    private static void nows() {
        SproutCoins x = Check.inMonth(30);
        for (int c = 0; c < 6; c++) {
            x.coin(1, 0, 9);
        }
        x.set(0, 3, 1);
        x.set(1, 3, 2);
        x.set(2, 3, 2);
        x.pay(1, 0, 77);
        int[] due = {30, 6, 77, 3, 1, 2};
        for (int what = 0; what < 6; what++) {
            Check.due("now(" + what + ")", x.now(what), due[what]);
        }
        Check.due("now(-1)", x.now(-1), Check.BEYOND);
        Check.due("now(6)", x.now(6), Check.BEYOND);
    }
}
