/** Of several that are equally good the one that the document names; and the best by one alone. */
public final class ChoicesTest {
    public static void main(String[] args) {
        pay();
        tax();
        rich();
        when();
        best();
        kind();
        cellar();
        field();
        priceFor();
        taxMonth();
        bank();
        Check.finish("ChoicesTest");
    }

    private static void due(String scene, String call, long want) {
        Check.due(scene + ": " + call, Scene.told(scene).ask(call), want);
    }

    private static void pay() {
        String four = "empty 0; coin 0 0 10; coin 0 0 20; coin 0 0 30; coin 0 0 40";
        due(four, "which 0 50", 6);
        due(four, "which 0 49", 6);
        due(four, "which 0 51", 7);
        due(four, "which 0 30", 3);
        due(four, "which 0 40", 5);
        due(four, "which 0 60", 7);
        due(four, "which 0 100", 15);
        due("empty 0; coin 0 0 40; coin 0 0 10; coin 0 0 20; coin 0 0 10", "which 0 40", 1);
        due("empty 0; coin 0 0 10; coin 0 0 10; coin 0 0 20; coin 0 0 40", "which 0 40", 7);
        due("empty 0; coin 0 0 9; coin 0 0 9; coin 0 0 9", "which 0 9", 1);
        due("empty 0; coin 0 0 9; coin 0 0 9; coin 0 0 9", "which 0 10", 3);
        // The least WORTH is asked before the least set.
        due("empty 0; coin 0 0 12; coin 0 0 11", "which 0 11", 2);
        due("empty 0; coin 0 0 12; coin 0 0 12; coin 0 0 11", "which 0 11", 4);
        // One that is worth nothing makes a set greater, not better; unless all go.
        due("empty 0; coin 0 0 0; coin 0 0 9", "which 0 9", 2);
        due("empty 0; coin 0 0 0; coin 0 0 9", "which 0 10", 3);
        due("empty 0; coin 0 0 0", "which 0 1", 1);
        // WORTH, not SIZE: 1 and 9 are worth nothing and 1 by the price of 2.
        due("empty 0; price 0 2; coin 0 0 1; coin 0 0 9; coin 0 0 5", "which 0 1", 2);
        due("empty 0; price 0 2; coin 0 0 1; coin 0 0 9; coin 0 0 5", "which 0 2", 6);
        due("empty 0; price 0 2; coin 0 0 1; coin 0 0 9; coin 0 0 5", "which 0 3", 7);
        // Twelve alike.
        StringBuilder twelve = new StringBuilder("empty 0");
        for (int c = 0; c < 12; c++) {
            twelve.append("; coin 0 0 10");
        }
        for (int n = 1; n <= 12; n++) {
            due(twelve.toString(), "which 0 " + 10 * n, (1 << n) - 1);
            due(twelve.toString(), "over 0 " + (10 * n - 9), 9);
        }
        due(twelve.toString(), "which 0 121", 4095);
        due(twelve.toString(), "over 0 121", -1);
    }

    private static void tax() {
        String two = "empty 0; coin 0 0 9; coin 0 0 10; coin 0 0 10; coin 0 1 10";
        due(two, "tax", 2);
        int[] kinds = {0, 4, 0, 4};
        for (int c = 0; c < 4; c++) {
            due(two + "; tax", "of " + c + " 0", kinds[c]);
        }
        // WORTH is cut: 19 and 15 are worth 1 each, so the least number is taken.
        due("empty 0; price 0 1; coin 0 0 15; coin 0 0 19; tax", "of 0 0", 4);
        due("empty 0; price 0 1; coin 0 0 15; coin 0 0 20; tax", "of 1 0", 4);
        due("empty 0; coin 0 0 0; tax", "of 0 0", 4);
        due("empty 0; coin 0 0 50; set 0 3 1", "tax", 0);
        due("empty 0; coin 0 0 50; set 0 3 2", "tax", 0);
        due("empty 0; coin 4 0 50; coin 0 0 49; tax; tax", "of 1 0", 0);
        due("full 27", "tax", 4);
    }

    private static void rich() {
        due("empty 0", "rich 0", 0);
        due("empty 0; coin 1 3 1", "rich 0", 3);
        due("empty 0; coin 1 3 5; coin 1 1 5", "rich 0", 1);
        due("empty 0; coin 1 3 6; coin 1 1 5", "rich 0", 3);
        due("empty 0; coin 1 2 5; coin 1 0 5", "rich 0", 0);
        due("empty 0; coin 0 3 6; coin 1 1 5", "rich 1", 1);
        due("empty 0; coin 1 3 6; coin 1 1 5; set 0 3 1", "rich 0", 1);
    }

    private static void when() {
        due("empty 0; coin 0 0 9", "when 0", 0);
        due("empty 0; coin 1 0 9; price 0 9; price 1 9", "when 0", 2);
        due("empty 0; coin 1 0 10; price 1 10", "when 0", 0);
        due("empty 0; coin 1 0 10; price 1 11; price 2 11", "when 0", 1);
        due("empty 0; coin 0 0 0", "when 0", 0);
        due("empty 9; coin 0 0 1; set 0 3 2", "when 0", 12);
        due("empty 8; coin 0 0 1; set 0 3 2", "when 0", 1);
        due("empty 9; coin 1 0 9; set 0 3 2; price 9 0; price 8 99", "when 0", 23);
    }

    private static void best() {
        String june = "empty 5; coin 0 0 99";
        // Kept 95, spent 99, planted 99.
        due(june, "best 0 4", 1);
        // Kept 99, spent 99, planted 99.
        due("empty 5; coin 1 0 99", "best 0 4", 0);
        // Kept 198, spent 99, planted 198.
        due("empty 5; coin 1 0 99; price 9 20", "best 0 4", 0);
        // Kept 96, spent 98, planted 99, and 0 before it is back.
        due("empty 5; coin 0 0 98", "best 0 4", 2);
        due("empty 5; coin 0 0 98", "best 0 3", 1);
        // Kept 98, spent 98, planted 0.
        due("empty 5; coin 1 0 98", "best 0 3", 0);
        due(june + "; price 5 0; price 9 0", "best 0 4", 0);
        due("empty 5; coin 0 0 0", "best 0 4", 0);
        // In July none is planted: kept 96, spent 99.
        due("empty 6; coin 0 0 99", "best 0 3", 1);
        due("empty 1; coin 0 0 9", "best 0 8", 1);
        due("empty 2; coin 0 0 9", "best 0 7", 2);
        // 1 is better than nothing.
        due("empty 5; coin 0 0 1; price 5 0; price 9 1", "best 0 4", 2);
    }

    private static void kind() {
        due("empty 0; coin 4 0 50", "kind 0 1", 1);
        due("empty 0; coin 4 0 50; price 1 0", "kind 0 1", 0);
        due("empty 0; coin 0 0 1", "kind 0 1", 1);
        due("empty 0; coin 0 0 50; coin 0 0 50; set 0 3 1", "kind 1 1", 1);
        // WORTH is cut: by the price of 1 all but BOILED are worth 4 after a month.
        due("empty 0; coin 4 0 42; price 1 1", "kind 0 1", 0);
        due("empty 0; coin 4 0 40; price 1 1", "kind 0 1", 1);
        due("empty 8; coin 4 0 1; set 0 3 2", "kind 0 1", 3);
        // All that yield are cut at 99, but BLUE and SKY: COIN is the least of them.
        due("empty 8; coin 4 0 10; set 0 3 2", "kind 0 1", 0);
        due("empty 8; coin 4 0 99; set 0 3 2", "kind 0 1", 0);
        due("empty 8; coin 4 0 9; set 0 3 2", "kind 0 1", 3);
    }

    private static void cellar() {
        String five = "empty 0; coin 0 0 90; coin 0 0 90; coin 0 0 90; coin 0 0 90; coin 0 0 90";
        due(five + "; set 2 3 1", "cellar 1", 2);
        due(five + "; set 1 3 1", "cellar 1", 1);
        due(five + "; set 3 3 1", "cellar 1", 3);
        due(five + "; set 0 3 1", "cellar 1", Check.NONE);
        due(five + "; set 4 3 1", "cellar 1", Check.NONE);
        // Two ROTTEN ones turn fewest side by side at an end.
        due(five + "; set 1 3 1; set 2 3 1", "cellar 1", 2);
        due(five + "; set 0 3 1; set 2 3 1", "cellar 1", 102);
        due(five + "; set 0 3 1; set 4 3 1", "cellar 1", 3);
        // For one month the end is as good as behind the BLUE one, and told first; for two it is not as good.
        due(five + "; turn 1 1; set 2 3 1", "cellar 1", 2);
        due(five + "; turn 4 1; set 2 3 1", "cellar 1", 2);
        due(five + "; turn 4 1; set 2 3 1", "cellar 2", 204);
        // PLANTED ones are not ROTTEN, before they are back and then, but for those that come back as nothing.
        String planted = "empty 0; coin 0 0 90; coin 0 0 90; coin 0 0 90; coin 0 0 9; coin 0 0 9; coin 0 0 9; set 1 3 1";
        due(planted + "; set 3 3 2; set 4 3 2; set 5 3 2", "cellar 1", 104);
        due("empty 8; coin 0 0 9; coin 4 0 9; coin 0 0 90; set 0 3 2; set 1 3 2", "cellar 1", Check.NONE);
        due("empty 8; coin 0 0 9; coin 4 0 9; coin 0 0 90; set 0 3 2; set 1 3 2", "cellar 2", 1);
    }

    private static void field() {
        String march = "empty 2; soil 0 0; price 9 2; coin 2 0 1";
        // 5 times 2 by 10: a PURSE of 1 is better than none.
        due(march, "field 0 7", 1);
        due(march, "field 0 6", 0);
        due("empty 2; coin 1 0 99", "field 0 7", 1);
        // 99 kept or planted: the least set.
        due("empty 5; coin 1 0 99", "field 0 4", 0);
        due("empty 5; coin 1 0 99; coin 0 0 99", "field 0 4", 2);
        due("empty 5; coin 0 0 99; coin 1 0 99; coin 4 0 5; coin 0 1 9; coin 3 0 1", "field 0 4", 17);
        StringBuilder six = new StringBuilder("empty 5");
        for (int c = 0; c < 12; c++) {
            six.append("; coin 0 ").append(c % 2).append(" 9");
        }
        due(six.toString(), "field 0 4", 1365);
        due(six.toString(), "field 1 4", 2730);
        due(six.toString(), "field 1 3", 0);
    }

    private static void priceFor() {
        due("empty 0; coin 0 0 99", "priceFor 0 980", 99);
        due("empty 0; coin 0 0 99", "priceFor 0 981", Check.NONE);
        due("empty 0; coin 0 0 10", "priceFor 0 5", 5);
        due("empty 0; coin 0 0 10", "priceFor 0 6", 6);
        due("empty 0; coin 0 0 10; price 1 99", "priceFor 0 6", 6);
        StringBuilder twelve = new StringBuilder("empty 23");
        for (int c = 0; c < 12; c++) {
            twelve.append("; coin 0 0 99");
        }
        due(twelve.toString(), "priceFor 0 9999", 85);
    }

    private static void taxMonth() {
        due("empty 0; coin 0 0 99", "taxMonth", 11);
        // 21 less 17 in eleven months, less 3: 1 is left, and nothing if it is asked before.
        due("empty 0; coin 0 0 21", "taxMonth", 11);
        due("empty 0; coin 0 0 20", "taxMonth", 0);
        due("empty 0; coin 0 0 99; price 0 0", "taxMonth", 0);
        due("empty 0; coin 0 0 9; set 0 3 1", "taxMonth", 0);
        // BLUE and BOILED: the tax takes the BOILED one as long as it is worth more, which costs nothing.
        due("empty 0; coin 4 0 99; coin 1 0 50", "taxMonth", 0);
        // 50 BOILED is less than 49 BLUE after a month: only now it is the greatest.
        due("empty 0; coin 4 0 50; coin 1 0 49", "taxMonth", 0);
        due("empty 0; coin 4 0 48; coin 1 0 49; price 0 10", "taxMonth", 11);
    }

    private static void bank() {
        due("empty 0; coin 1 3 9", "bank", 3);
        due("empty 0; coin 1 3 9; coin 5 0 9", "bank", 0);
        due("empty 0; coin 1 3 9; coin 5 2 9; coin 5 3 9", "bank", 3);
        due("empty 0; coin 1 3 9; coin 5 2 9; coin 5 3 9; coin 1 2 1", "bank", 2);
        due("empty 0; coin 1 3 9; coin 5 2 9; coin 5 3 9; set 2 3 2", "bank", 2);
        due("full 27", "bank", 3);
    }
}
