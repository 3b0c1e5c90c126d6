/** Promises 36 to 41: sheets. */
public final class SheetTest {
    public static void main(String[] args) {
        sheets();
        writing();
        copying();
        laying();
        booking();
        reading();
        Check.finish("SheetTest");
    }

    private static void sheets() {
        SproutCoins x = new SproutCoins();
        int[][] wrong = {{-1, 8, 1}, {4, 8, 1}, {0, 32, 1}, {0, -8, 1}, {0, 1, 1}, {0, 8, 41}, {0, 0, 41}, {4, 8, -1}, {0, 7, -1}};
        for (int[] w : wrong) {
            Check.due("sheet beyond", x.sheet(w[0], w[1], w[2]), Check.BEYOND);
        }
        Check.due("below 0", x.sheet(0, 8, -1), Check.SIZE);
        Check.due("below 0 with bits 0", x.sheet(0, 0, -1), Check.SIZE);
        Check.due("still missing", x.write(0, 0, 1), Check.MISSING);
        int[] bits = {8, 16, 64};
        for (int b : bits) {
            Check.due("none", x.sheet(3, b, 0), 0);
            Check.due("it is not missing", x.write(3, 0, 1), Check.BEYOND);
            Check.due("forty", x.sheet(3, b, 40), 40);
            for (int i = 0; i < 40; i++) {
                Check.due("all 0", x.write(3, i, i + 1), 0);
            }
            Check.due("anew", x.sheet(3, b, 5), 5);
            Check.due("0 again", x.write(3, 4, 9), 0);
            Check.due("no more of it", x.write(3, 5, 9), Check.BEYOND);
        }
        Check.due("a finding changes nothing", x.sheet(3, 64, 41), Check.BEYOND);
        Check.due("it stays", x.write(3, 4, 9), 9);
        Check.due("missing", x.sheet(3, 0, 40), 0);
        Check.due("it is", x.write(3, 0, 0), Check.MISSING);
        Check.due("longer again", x.sheet(3, 64, 6), 6);
        Check.due("0 again", x.write(3, 4, 9), 0);
    }

    private static void writing() {
        SproutCoins x = new SproutCoins();
        Check.due("write(-1, ..)", x.write(-1, 0, 0), Check.BEYOND);
        Check.due("write(4, ..)", x.write(4, 0, 0), Check.BEYOND);
        Check.due("missing before no such number", x.write(0, -1, 0), Check.MISSING);
        x.sheet(0, 8, 2);
        x.sheet(1, 16, 2);
        x.sheet(2, 64, 2);
        Check.due("write(0, -1, ..)", x.write(0, -1, 0), Check.BEYOND);
        Check.due("write(0, 2, ..)", x.write(0, 2, 0), Check.BEYOND);
        long[] values = {127, 128, 255, 256, -1, -128, -129, 32767, 32768, 65535, 65536, Long.MAX_VALUE, Long.MIN_VALUE, -1000000001};
        for (long v : values) {
            x.write(0, 1, v);
            x.write(1, 1, v);
            x.write(2, 1, v);
            Check.due("8 bits of " + v, x.write(0, 1, 0), (byte) v);
            Check.due("16 bits of " + v, x.write(1, 1, 0), (short) v);
            Check.due("64 bits of " + v, x.write(2, 1, 0), v);
        }
        Check.due("what looks like a finding is none", x.status(-1), 5);
        Check.due("the other number stays", x.write(0, 0, 0) + x.write(1, 0, 0) + x.write(2, 0, 0), 0);
    }

    private static void copying() {
        SproutCoins x = new SproutCoins();
        x.sheet(0, 16, 6);
        x.sheet(1, 16, 4);
        x.sheet(2, 8, 6);
        Check.due("copy(-1, ..)", x.copy(-1, 0, 0, 0, 0), Check.BEYOND);
        Check.due("copy(.., 4, ..)", x.copy(0, 0, 4, 0, 0), Check.BEYOND);
        Check.due("BEYOND before MISSING", x.copy(3, 0, 4, 0, 0), Check.BEYOND);
        Check.due("missing", x.copy(3, 0, 0, 0, 0), Check.MISSING);
        Check.due("missing, too", x.copy(0, -1, 3, 0, 0), Check.MISSING);
        Check.due("other bits", x.copy(0, -1, 2, 0, 0), Check.KIND);
        int[][] wrong = {{-1, 0, 1}, {0, -1, 1}, {0, 0, -1}, {0, 0, 5}, {3, 0, 4}, {0, 3, 2}, {7, 0, 0}, {0, 5, 0},
            {0, 0, Integer.MAX_VALUE}, {Integer.MAX_VALUE, 0, 1}, {0, Integer.MAX_VALUE, Integer.MAX_VALUE},
            {Integer.MIN_VALUE, 0, 1}, {0, 0, Integer.MIN_VALUE}};
        for (int[] w : wrong) {
            Check.due("copy beyond", x.copy(0, w[0], 1, w[1], w[2]), Check.BEYOND);
        }
        for (int i = 0; i < 6; i++) {
            x.write(0, i, 10 + i);
        }
        Check.due("none at the end", x.copy(0, 6, 1, 4, 0), 0);
        Check.due("three", x.copy(0, 3, 1, 1, 3), 3);
        long[] due = {0, 13, 14, 15};
        for (int i = 0; i < 4; i++) {
            Check.due("copied " + i, x.write(1, i, due[i]), due[i]);
        }
        Check.due("upward in itself", x.copy(0, 0, 0, 1, 5), 5);
        long[] up = {10, 10, 11, 12, 13, 14};
        for (int i = 0; i < 6; i++) {
            Check.due("as they all were " + i, x.write(0, i, up[i]), up[i]);
        }
        Check.due("downward in itself", x.copy(0, 2, 0, 0, 4), 4);
        long[] down = {11, 12, 13, 14, 13, 14};
        for (int i = 0; i < 6; i++) {
            Check.due("as they all were, down " + i, x.write(0, i, down[i]), down[i]);
        }
    }

    private static void laying() {
        SproutCoins x = new SproutCoins();
        Check.due("lays(-1)", x.lays(-1), Check.BEYOND);
        Check.due("lays(4)", x.lays(4), Check.BEYOND);
        Check.due("missing", x.lays(0), Check.MISSING);
        x.sheet(0, 64, 14);
        long[] values = {99, 100, -1, 0, 4294967296L, 7, -4294967290L, 1, 2, 3, 4, 5, 6, 8};
        for (int i = 0; i < 14; i++) {
            x.write(0, i, values[i]);
        }
        Check.due("those that may be", x.lays(0), 8);
        int[] due = {99, 10, 10, 0, 10, 7, 10, 1, 2, 3, 4, 5};
        for (int season = 0; season < 12; season++) {
            Check.due("price of " + season, x.price(season, 10), due[season]);
        }
        x.sheet(1, 8, 2);
        x.write(1, 1, 255);
        Check.due("255 of 8 bits is below 0", x.lays(1), 1);
        Check.due("price of 0", x.price(0, 10), 0);
        x.sheet(1, 8, 0);
        Check.due("none", x.lays(1), 0);
    }

    private static void booking() {
        SproutCoins x = new SproutCoins();
        Check.due("book(4, 0)", x.book(4, 0), Check.BEYOND);
        Check.due("missing before n", x.book(0, -1), Check.MISSING);
        x.coin(0, 0, 20);
        x.coin(1, 0, 99);
        x.coin(2, 0, 30);
        x.set(2, 3, 2);
        x.price(2, 30);
        x.sheet(0, 64, 5);
        x.sheet(1, 8, 2);
        x.write(0, 3, 77);
        Check.due("three coins", x.book(0, 2), 3);
        long[] due = {54, 297, 0, 77, 0};
        for (int i = 0; i < 5; i++) {
            Check.due("book " + i, x.write(0, i, 0), due[i]);
        }
        Check.due("as it is now", x.book(0, 0), 3);
        Check.due("its worth now", x.write(0, 0, 0), 20);
        Check.due("two numbers", x.book(1, 2), 2);
        Check.due("its lowest bits", x.write(1, 1, 0), 41);
        Check.due("n -1", x.book(0, -1), Check.BEYOND);
        Check.due("n 121", x.book(0, 121), Check.BEYOND);
        Check.due("nothing changed", x.now(0), 0);
        SproutCoins late = Check.inMonth(9879);
        late.sheet(0, 8, 1);
        Check.due("till 9999", late.book(0, 120), 0);
        late.months(1);
        Check.due("till 10000", late.book(0, 120), Check.STATE);
    }

    private static void reading() {
        SproutCoins x = new SproutCoins();
        Check.due("read(-1, 0)", x.read(-1, 0), Check.BEYOND);
        Check.due("missing before owner", x.read(0, 4), Check.MISSING);
        x.coin(0, 2, 40);
        x.coin(1, 1, 9);
        x.loan(1, 2, 5, 3);
        x.sheet(0, 16, 40);
        Check.due("read(0, 4)", x.read(0, 4), Check.BEYOND);
        Check.due("read(0, -1)", x.read(0, -1), Check.BEYOND);
        for (int n = 0; n < 40; n++) {
            Check.due("not yet " + n, x.read(0, 2), x.purseOn(2, n) == 0 ? 0 : 1 + n);
            x.write(0, n, x.purseOn(2, n));
        }
        Check.due("all are", x.read(0, 2), 0);
        x.write(0, 39, -1);
        Check.due("the last isn't", x.read(0, 2), 40);
        x.write(0, 3, 0);
        Check.due("the fourth isn't", x.read(0, 2), 4);
        Check.due("of another owner", x.read(0, 1), 1);
        x.sheet(1, 8, 1);
        x.set(0, 2, 99);
        x.price(0, 20);
        x.write(1, 0, 198);
        Check.due("8 bits can't be 198", x.read(1, 2), 1);
        SproutCoins late = Check.inMonth(9959);
        late.sheet(0, 64, 40);
        Check.due("at 9959", late.read(0, 0), 0);
        late.months(1);
        late.sheet(0, 64, 0);
        Check.due("at 9960", late.read(0, 0), Check.STATE);
        Check.due("at 9960: BEYOND first", late.read(0, 4), Check.BEYOND);
    }
}
