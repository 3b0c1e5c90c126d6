/** What a MONTH does, step by step (a to e), at each edge that the document names; and the SEASON going round. */
public final class StepsTest {
    private static final int[] WINTER = {1, 0, 2, 1, 3, 0};
    private static final int[] SPRING = {3, 1, 6, 3, 7, 1};

    public static void main(String[] args) {
        seasonsGoRound();
        eachMonthShrinks();
        shrunkToNothing();
        onlySoundOnesShrink();
        eachKindTurns();
        endsOfTheCellar();
        rottenWhenTheMonthBegan();
        autumnAlone();
        cutAt99();
        backUnhurt();
        loansInTheirMonth();
        loansByNumbers();
        lastMonth();
        howManyRot();
        Check.finish("StepsTest");
    }

    private static int shrinks(int kind, int month) {
        boolean sprouts = month % 12 == 2 || month % 12 == 3 || month % 12 == 4;
        return sprouts ? SPRING[kind] : WINTER[kind];
    }

    private static void seasonsGoRound() {
        SproutCoins x = new SproutCoins();
        x.coin(1, 0, 50);
        for (int season = 0; season < 12; season++) {
            x.price(season, 10 + season);
        }
        for (int month = 0; month < 30; month++) {
            Check.due("month", x.now(0), month);
            Check.due("season of month " + month, x.now(1), month % 12);
            Check.due("worth by its price", x.of(0, 4), x.of(0, 2) * (10 + month % 12) / 10);
            x.months(1);
        }
        SproutCoins y = Check.inMonth(11);
        y.coin(1, 0, 10);
        y.price(11, 50);
        y.price(0, 70);
        Check.due("December", y.purse(0), 50);
        Check.due("January comes", y.purseOn(0, 1), 70);
        y.months(1);
        Check.due("January", y.purse(0), 70);
    }

    private static void eachMonthShrinks() {
        for (int month = 0; month < 24; month++) {
            SproutCoins x = Check.inMonth(month);
            for (int kind = 0; kind < 6; kind++) {
                x.coin(kind, 0, 50);
            }
            x.months(1);
            for (int kind = 0; kind < 6; kind++) {
                Check.due("kind " + kind + " after month " + month, x.of(kind, 2), 50 - shrinks(kind, month));
            }
        }
    }

    private static void shrunkToNothing() {
        int[] months = {1, 2, 4, 5, 8, 9, 11};
        for (int month : months) {
            for (int kind = 0; kind < 6; kind++) {
                int by = shrinks(kind, month);
                for (int size = Math.max(0, by - 1); size <= by + 1; size++) {
                    SproutCoins x = Check.inMonth(month);
                    x.coin(kind, 0, size);
                    boolean rots = size <= by;
                    String about = "kind " + kind + " of " + size + " in month " + month;
                    Check.due(about + " rots", x.months(1), rots ? 1 : 0);
                    Check.due(about + " size", x.of(0, 2), rots ? 0 : 1);
                    Check.due(about + " state", x.of(0, 3), rots ? 1 : 0);
                }
            }
        }
    }

    private static void onlySoundOnesShrink() {
        SproutCoins x = new SproutCoins();
        for (int kind = 0; kind < 6; kind++) {
            x.coin(kind, 0, 9);
            x.coin(kind, 0, 0);
            x.set(2 * kind, 3, 1);
            x.set(2 * kind + 1, 3, 2);
        }
        Check.due("none rots till autumn", x.months(8), 0);
        for (int c = 0; c < 12; c++) {
            Check.due("size of " + c, x.of(c, 2), c % 2 == 0 ? 9 : 0);
            Check.due("state of " + c, x.of(c, 3), c % 2 == 0 ? 1 : 2);
        }
        Check.due("those planted of 0 rot then", x.months(1), 6);
        Check.due("the rotten ones are as they were", x.of(0, 2) + x.of(10, 2), 18);
    }

    private static void eachKindTurns() {
        int[] turns = {1, 0, 1, 1, 1, 0};
        for (int rotten = 0; rotten < 6; rotten++) {
            for (int kind = 0; kind < 6; kind++) {
                SproutCoins x = new SproutCoins();
                x.coin(kind, 0, 50);
                x.coin(rotten, 1, 50);
                x.coin(kind, 2, 50);
                x.coin(kind, 2, 50);
                x.set(1, 3, 1);
                String about = "kind " + kind + " beside a rotten " + rotten;
                Check.due(about, x.months(1), 2 * turns[kind]);
                Check.due(about + ", below it", x.of(0, 3), turns[kind]);
                Check.due(about + ", above it", x.of(2, 3), turns[kind]);
                Check.due(about + ", not beside it", x.of(3, 3), 0);
                Check.due(about + ", shrunk", x.of(0, 2), 50 - WINTER[kind]);
            }
        }
    }

    private static void endsOfTheCellar() {
        for (int rotten = 0; rotten < 12; rotten++) {
            SproutCoins x = new SproutCoins();
            for (int c = 0; c < 12; c++) {
                x.coin(0, c % 4, 50);
            }
            x.set(rotten, 3, 1);
            Check.due("beside " + rotten, x.months(1), rotten == 0 || rotten == 11 ? 1 : 2);
            for (int c = 0; c < 12; c++) {
                Check.due(c + " with " + rotten + " rotten", x.of(c, 3), Math.abs(c - rotten) <= 1 ? 1 : 0);
            }
        }
    }

    private static void rottenWhenTheMonthBegan() {
        SproutCoins x = new SproutCoins();
        x.coin(0, 0, 50);
        x.coin(0, 0, 1);
        x.coin(0, 0, 50);
        Check.due("rotten by (a) in the month itself", x.months(1), 1);
        Check.due("both in the next", x.months(1), 2);
        SproutCoins y = Check.inMonth(8);
        y.coin(0, 0, 50);
        y.coin(4, 0, 50);
        y.set(1, 3, 2);
        Check.due("rotten by (c)", y.months(1), 1);
        Check.due("turns none before the next", y.of(0, 3), 0);
        Check.due("but then", y.months(1), 1);
        SproutCoins z = new SproutCoins();
        z.coin(0, 0, 50);
        z.coin(0, 0, 50);
        z.set(0, 3, 2);
        Check.due("a planted one turns none", z.months(1), 0);
    }

    private static void autumnAlone() {
        for (int month = 0; month < 24; month++) {
            SproutCoins x = Check.inMonth(month);
            x.coin(3, 1, 2);
            x.set(0, 3, 2);
            x.months(1);
            boolean back = month % 12 == 8;
            Check.due("planted through month " + month, x.of(0, 3), back ? 0 : 2);
            Check.due("its size then", x.of(0, 2), back ? 26 : 2);
        }
    }

    private static void cutAt99() {
        int[][] soilSizeDue = {{4, 11, 99}, {4, 12, 99}, {5, 9, 90}, {5, 10, 99}, {3, 12, 96}, {0, 1, 5}, {9, 7, 98}, {9, 8, 99}};
        for (int[] row : soilSizeDue) {
            SproutCoins x = Check.inMonth(8);
            x.soil(2, row[0]);
            x.coin(0, 2, row[1]);
            x.set(0, 3, 2);
            x.months(1);
            Check.due("soil " + row[0] + ", size " + row[1], x.of(0, 2), row[2]);
            Check.due("sound", x.of(0, 3), 0);
        }
    }

    private static void backUnhurt() {
        SproutCoins x = Check.inMonth(8);
        x.coin(0, 0, 50);
        x.coin(2, 0, 1);
        x.coin(0, 0, 50);
        x.set(0, 3, 1);
        x.set(1, 3, 2);
        Check.due("none", x.months(1), 0);
        Check.due("neither shrunk", x.of(1, 2), 10);
        Check.due("nor turned", x.of(1, 3), 0);
        Check.due("turned in the next", x.months(1), 1);
        Check.due("and shrunk", x.of(1, 2), 8);
    }

    private static void loansInTheirMonth() {
        SproutCoins x = Check.inMonth(7);
        x.coin(0, 0, 1);
        x.set(0, 3, 2);
        x.loan(0, 1, 10, 2);
        x.months(1);
        Check.due("not before", x.loanOf(0, 4), 0);
        x.months(1);
        Check.due("paid", x.loanOf(0, 4), 1);
        Check.due("with what is back by (c)", x.of(0, 1), 1);
        Check.due("none lacked", x.now(2), 0);
        SproutCoins y = new SproutCoins();
        y.coin(0, 0, 10);
        y.loan(0, 1, 10, 1);
        y.months(1);
        Check.due("what shrank by (a) is worth less", y.now(2), 1);
        SproutCoins z = new SproutCoins();
        z.coin(0, 0, 1);
        z.loan(0, 1, 1, 1);
        z.months(1);
        Check.due("what rotted by (a) doesn't go", z.of(0, 1) * 10 + z.now(2), 1);
        SproutCoins far = new SproutCoins();
        far.loan(0, 1, 1, 120);
        far.months(119);
        Check.due("month 119", far.count(2), 1);
        far.months(1);
        Check.due("month 120", far.count(2), 0);
    }

    private static void loansByNumbers() {
        SproutCoins x = new SproutCoins();
        x.coin(1, 0, 10);
        x.loan(1, 2, 10, 1);
        x.loan(0, 1, 10, 1);
        x.months(1);
        Check.due("loan 0 first: 1 had nothing yet", x.of(0, 1) * 100 + x.now(2), 110);
        SproutCoins y = new SproutCoins();
        y.coin(1, 0, 10);
        y.loan(0, 1, 10, 1);
        y.loan(1, 2, 10, 1);
        y.months(1);
        Check.due("loan 1 with what loan 0 brought", y.of(0, 1) * 100 + y.now(2), 200);
        SproutCoins z = new SproutCoins();
        z.coin(1, 0, 10);
        for (int i = 0; i < 8; i++) {
            z.loan(i % 4, (i + 1) % 4, 10, 1);
        }
        z.months(1);
        Check.due("eight of them, round and round", z.of(0, 1) * 100 + z.now(2), 0);
        Check.due("all paid", z.count(2), 0);
    }

    private static void lastMonth() {
        SproutCoins x = Check.inMonth(9998);
        x.coin(0, 0, 50);
        x.loan(0, 1, 50, 1);
        Check.due("the last month goes", x.months(1), 0);
        Check.due("as any other", x.of(0, 2), 47);
        Check.due("its loan is paid", x.loanOf(0, 4) * 10 + x.now(2), 13);
        Check.due("none after it", x.months(1), Check.STATE);
        Check.due("on 0", x.on(0, 0), 47);
    }

    private static void howManyRot() {
        SproutCoins x = Check.inMonth(6);
        x.coin(0, 0, 2);
        x.coin(4, 0, 9);
        x.coin(0, 0, 9);
        x.coin(1, 0, 9);
        x.set(1, 3, 2);
        x.set(2, 3, 1);
        Check.due("one SOUND, one PLANTED, not the one that was ROTTEN", x.months(3), 2);
        Check.due("no more", x.months(1), 0);
    }
}
