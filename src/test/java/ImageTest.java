/** Promises 42 to 46: images, counts, status. */
public final class ImageTest {
    public static void main(String[] args) {
        allOfTheMarket();
        tapeAndSheetsStay();
        keptLatest();
        counts();
        statuses();
        Check.finish("ImageTest");
    }

    private static void allOfTheMarket() {
        SproutCoins x = Check.inMonth(5);
        x.coin(1, 0, 50);
        x.coin(3, 1, 60);
        x.soil(0, 1);
        x.price(6, 20);
        x.loan(0, 1, 10, 1);
        x.pay(2, 3, 8);
        Check.due("image", x.image(), 1);
        x.coin(0, 2, 9);
        x.soil(0, 2);
        x.soil(3, 9);
        x.price(6, 30);
        x.loan(2, 3, 5, 1);
        x.turn(0, 2);
        x.set(1, 1, 3);
        x.set(1, 2, 1);
        x.swap(0, 1);
        x.plant(0);
        x.months(3);
        Check.due("undo", x.undo(), 2);
        int[][] due = {{1, 0, 50, 0}, {3, 1, 60, 0}};
        for (int c = 0; c < 2; c++) {
            for (int what = 0; what < 4; what++) {
                Check.due("of(" + c + ", " + what + ") again", x.of(c, what), due[c][what]);
            }
        }
        int[] now = {5, 5, 8, 2, 0, 0};
        for (int what = 0; what < 6; what++) {
            Check.due("now(" + what + ") again", x.now(what), now[what]);
        }
        Check.due("soil again", x.soil(0, 1), 1);
        Check.due("another soil again", x.soil(3, 5), 5);
        Check.due("price again", x.price(6, 20), 20);
        Check.due("loans again", x.count(1), 1);
        Check.due("unpaid again", x.loanOf(0, 4), 0);
        Check.due("no such coin", x.of(2, 0), Check.BEYOND);
        x.months(1);
        Check.due("it stays kept", x.undo(), 2);
        Check.due("month again", x.now(0), 5);
    }

    private static void tapeAndSheetsStay() {
        SproutCoins x = new SproutCoins();
        Check.feed(x, "soil");
        x.sheet(0, 8, 1);
        x.image();
        Check.feed(x, " 0 1");
        x.write(0, 0, 5);
        x.of(0, 0);
        x.undo();
        Check.due("the tape stays", x.count(3), 8);
        Check.due("the sheet stays", x.write(0, 0, 5), 5);
        Check.due("status stays", x.status(-1), 1);
        Check.due("the text is whole", x.market(), 1);
    }

    private static void keptLatest() {
        SproutCoins x = new SproutCoins();
        x.image();
        x.coin(0, 0, 1);
        x.image();
        x.coin(0, 0, 1);
        Check.due("the latest", x.undo(), 1);
        Check.due("tear", x.tear(), 1);
        Check.due("tear again", x.tear(), 0);
        Check.due("nothing is kept", x.undo(), Check.NONE);
        Check.due("nothing changed", x.count(0), 1);
        x.image();
        x.set(0, 2, 50);
        x.undo();
        Check.due("what is undone doesn't touch the image", x.set(0, 2, 60), 1);
        x.undo();
        Check.due("again", x.of(0, 2), 1);
    }

    private static void counts() {
        SproutCoins x = new SproutCoins();
        x.coin(0, 0, 40);
        x.coin(1, 1, 50);
        x.coin(2, 2, 7);
        x.set(0, 3, 1);
        x.set(2, 3, 2);
        x.loan(0, 1, 1, 1);
        x.loan(1, 2, 1, 2);
        x.loan(1, 2, 1, 2);
        x.months(1);
        Check.feed(x, "abcde");
        int[] due = {3, 3, 2, 5, 97};
        for (int what = 0; what < 5; what++) {
            Check.due("count(" + what + ")", x.count(what), due[what]);
        }
        Check.due("count(-1)", x.count(-1), Check.BEYOND);
        Check.due("count(5)", x.count(5), Check.BEYOND);
    }

    private static void statuses() {
        SproutCoins x = new SproutCoins();
        x.count(9);
        for (int c = 0; c < 13; c++) {
            x.coin(1, 0, 1);
        }
        x.as(0, 2);
        x.as(0, 3);
        x.undo();
        x.plant(0);
        x.lays(0);
        x.write(1, 0, 0);
        x.copy(0, 0, 1, 0, 0);
        x.sheet(0, 8, -1);
        int[] due = {1, 1, 2, 1, 1, 3, 1};
        for (int which = 0; which < 7; which++) {
            Check.due("status(" + which + ")", x.status(which), due[which]);
        }
        Check.due("status(-1)", x.status(-1), 10);
        Check.due("status(7)", x.status(7), Check.BEYOND);
        Check.due("counted from then on", x.status(0), 2);
        Check.due("status(-2)", x.status(-2), Check.BEYOND);
        Check.due("counted, too", x.status(-1), 12);
        x.image();
        x.of(-1, 0);
        x.undo();
        Check.due("undo takes none back", x.status(-1), 13);
    }
}
