import java.util.Arrays;
import java.util.HashMap;
import java.util.Map;

/**
 * What each act changes, and that it changes nothing else; that no question changes anything; that a text with a FAULT
 * leaves all as it was but for the tape. Each object is held against one on which the call was not made.
 */
public final class ChangesTest {
    private static final String RICH = "rich 27";
    private static final String FULL = "full 27";
    private static final String NO_TEXT = "text=-1, text coins=2, text soil 1=5, text coin 2 size=-1000000001";

    private static final Map<String, Map<String, Long>> UNTOUCHED = new HashMap<>();

    public static void main(String[] args) {
        market();
        payments();
        months();
        text();
        sheets();
        images();
        questions();
        faults();
        Check.finish("ChangesTest");
    }

    private static Map<String, Long> untouched(String scene) {
        return UNTOUCHED.computeIfAbsent(scene, s -> Scene.told(s).all());
    }

    private static void changes(String scene, String call, long answer, String due) {
        Scene x = Scene.told(scene);
        long[] before = x.status();
        Check.due(scene + ": " + call, x.ask(call), answer);
        long[] after = x.status();
        Check.due(scene + ": " + call + " is counted", Arrays.equals(before, after) ? 0 : 1, 0);
        String got = Scene.changes(untouched(scene), x.all());
        Check.due(scene + ": " + call + " changes " + got + "; due is " + due, got.equals(due) ? 1 : 0, 1);
    }

    private static void market() {
        changes(RICH, "soil 2 7", 8, "soil 2=7");
        changes(RICH, "soil 0 1", 1, "");
        changes(RICH, "price 3 0", 26, "price 3=0");
        changes(RICH, "price 11 99", 82, "price 11=99");
        changes(RICH, "coin 3 2 0", 7, "sound=6, coins=8, coin 7 kind=3, coin 7 owner=2, coin 7 size=0, coin 7 state=0");
        changes(RICH, "set 0 1 3", 0, "coin 0 owner=3");
        changes(RICH, "set 0 2 0", 90, "sizes=241, coin 0 size=0");
        changes(RICH, "set 2 2 99", 70, "sizes=360, coin 2 size=99");
        changes(RICH, "set 0 3 1", 0, "sound=4, rotten=2, coin 0 state=1");
        changes(RICH, "set 3 3 0", 2, "sound=6, planted=0, coin 3 state=0");
        changes("rich 30", "set 0 3 2", 0, "sound=4, planted=2, coin 0 state=2");
        changes(RICH, "turn 2 5", 2, "coin 2 kind=5");
        changes(RICH, "turn 2 2", 2, "");
        changes(RICH, "swap 0 2", 1, "coin 0 kind=2, coin 0 owner=1, coin 0 size=70, coin 0 state=1,"
            + " coin 2 kind=0, coin 2 owner=0, coin 2 size=90, coin 2 state=0");
        changes(RICH, "swap 2 0", 1, "coin 0 kind=2, coin 0 owner=1, coin 0 size=70, coin 0 state=1,"
            + " coin 2 kind=0, coin 2 owner=0, coin 2 size=90, coin 2 state=0");
        changes(RICH, "swap 4 4", 1, "");
        changes(RICH, "plant 0", 90, "sound=4, planted=2, coin 0 state=2");
    }

    private static void payments() {
        changes(RICH, "pay 0 3 5", 2, "coin 1 owner=3");
        changes(RICH, "pay 3 1 31", 64, "coin 6 owner=1");
        changes(RICH, "pay 3 1 32", 64, "lacked=56, coin 6 owner=1");
        changes(RICH, "pay 1 0 7", 0, "lacked=62");
        changes(RICH, "loan 2 3 9999 120", 3, "loans=4, unpaid=3, loan 3 from=2, loan 3 to=3, loan 3 v=9999, loan 3 due=147, loan 3 paid=0");
        changes(RICH, "tax", 3, "coin 0 kind=4, coin 6 kind=4");
    }

    private static void months() {
        changes(RICH, "months 1", 0, "month=28, season=4, sizes=318,"
            + " coin 0 size=87, coin 1 size=39, coin 4 size=73, coin 5 size=32, coin 6 size=11");
        // In the second month loan 1 is due: 60 of owner 0, whose coins are worth 336 and 152 by the price of 40.
        changes(RICH, "months 2", 0, "month=29, season=5, unpaid=1, sizes=305, coin 0 size=84,"
            + " coin 1 owner=1, coin 1 size=38, coin 4 size=66, coin 5 size=31, coin 6 size=10, loan 1 paid=1");
    }

    private static void text() {
        changes(RICH, "feed 0 1", 26, "tape=26, kept tape=26, text=-26, text coins=2, text soil 1=5, text coin 2 size=-1000000001");
        changes(RICH, "feed 1 2", 27, "tape=27, kept tape=27, text=-26, text coins=2, text soil 1=5, text coin 2 size=-1000000001");
        changes(RICH, "wipe", 25, "tape=0, kept tape=0, " + NO_TEXT);
        changes(RICH, "market", 2, "sound=6, coins=8, tape=0, sizes=375, soil 1=7, kept tape=0, " + NO_TEXT
            + ", coin 7 kind=2, coin 7 owner=3, coin 7 size=44, coin 7 state=0");
    }

    private static void sheets() {
        changes(RICH, "sheet 0 16 3", 3,
            "sheet 0 number 1=0, sheet 0 number 3=-, sheet 0 number 4=-, sheet 0 many=3, sheet 0 keeps=897");
        changes(RICH, "sheet 0 8 5", 5, "sheet 0 number 1=0, sheet 0 number 4=0");
        changes(RICH, "sheet 2 0 9", 0, "sheet 2 number 0=-, sheet 2 number 1=-, sheet 2 number 2=-, sheet 2 number 3=-,"
            + " sheet 2 many=-1, sheet 2 keeps=0");
        changes(RICH, "sheet 3 64 1", 1, "sheet 3 many=1, sheet 3 keeps=4294968193, sheet 3 number 0=0");
        changes(RICH, "sheet 3 8 0", 0, "sheet 3 many=0");
        changes(RICH, "write 0 0 300", 0, "sheet 0 number 0=44");
        changes(RICH, "write 1 5 98304", -1, "sheet 1 number 5=-32768");
        changes(RICH, "write 2 2 -5000000000", 5000000000L, "sheet 2 number 2=-5000000000");
        changes(RICH, "copy 1 0 1 1 5", 5, "sheet 1 number 1=338, sheet 1 number 5=0");
        changes(RICH, "copy 1 1 1 0 5", 5, "sheet 1 number 0=0, sheet 1 number 4=-1");
        changes(RICH, "copy 1 0 1 0 6", 6, "");
        changes(RICH, "copy 2 3 2 4 0", 0, "");
        changes(RICH + "; sheet 3 64 2", "copy 2 2 3 0 2", 2, "sheet 3 number 0=5000000000, sheet 3 number 1=8");
        changes(RICH, "lays 0", 4, "price 0=0, price 2=0, price 3=0, price 4=99");
        changes(RICH, "book 1 0", 6, "sheet 1 number 0=234, sheet 1 number 1=104, sheet 1 number 4=208, sheet 1 number 5=85");
        changes(RICH, "book 0 0", 5, "sheet 0 number 0=-22, sheet 0 number 1=104, sheet 0 number 4=-48");
    }

    private static boolean isOfMarket(String label) {
        return !label.startsWith("kept") && !label.startsWith("text") && !label.startsWith("sheet") && !label.equals("tape");
    }

    private static void images() {
        Map<String, Long> before = untouched(RICH);
        Scene imaged = Scene.told(RICH + "; image; months 3; coin 0 0 9; soil 0 9; price 0 9");
        Map<String, Long> after = imaged.all();
        Scene back = Scene.told(RICH + "; undo");
        Map<String, Long> undone = back.all();
        for (String label : before.keySet()) {
            if (isOfMarket(label)) {
                Check.due("image keeps " + label, after.get("kept " + label), before.get(label));
            } else if (label.startsWith("sheet") || label.equals("tape")) {
                Check.due("undo leaves " + label, undone.get(label), before.get(label));
            } else if (label.startsWith("kept ")) {
                Check.due("undo brings " + label, undone.get(label.substring(5)), before.get(label));
                Check.due("which stays: " + label, undone.get(label), before.get(label));
            }
        }
        Map<String, Long> torn = Scene.told(RICH + "; tear").all();
        for (String label : before.keySet()) {
            if (isOfMarket(label)) {
                Check.due("tear leaves " + label, torn.get(label), before.get(label));
            }
        }
        Check.due("and nothing is kept", torn.get("kept"), Check.NONE);
        Check.due("what is kept latest", Scene.told(RICH + "; image; coin 0 0 9; image; coin 0 0 9").ask("undo"), 8);
    }

    private static void questions() {
        String[] scenes = {RICH, FULL};
        String[] asked = {"of 0 4", "of 2 5", "of 3 6", "of 5 7", "as 4 2", "purse 0", "which 0 300", "which 0 9999", "over 0 9999",
            "over 2 100", "loanOf 0 4", "now 0", "now 3", "on 0 120", "on 3 9", "purseOn 0 120", "purseOn 1 2", "rich 120", "rots 0",
            "rots 2", "when 0", "when 3", "lacks 120", "best 0 24", "best 1 7", "kind 0 120", "kind 3 9", "cellar 60", "field 0 24",
            "field 2 6", "priceFor 0 0", "priceFor 0 500", "taxMonth", "bank", "read 0 0", "read 1 0", "count 4", "status -1",
            "status 6"};
        for (String scene : scenes) {
            for (String call : asked) {
                Scene x = Scene.told(scene);
                x.ask(call);
                String got = Scene.changes(untouched(scene), x.all());
                Check.due(scene + ": " + call + " changes " + got, got.length(), 0);
            }
        }
    }

    private static void faults() {
        String[] texts = {"", ";", "coin", "soil 1 7;", "soil 1 7;price 0 3;sky of 0 size 5 rotten;loan 0 to 1 5 in 3;x",
            "price 11 1;coin of 0 size 9;coin of 0 size 9;coin of 0 size 9;coin of 0 size 9;coin of 0 size 9;coin of 0 size 9"};
        int[] places = {0, 0, 4, 9, 61, 96};
        for (int i = 0; i < texts.length; i++) {
            Scene x = Scene.told(RICH);
            long[] before = x.status();
            Check.due("fault of " + texts[i], x.tell(texts[i]), -1 - places[i]);
            Check.due("no finding: " + texts[i], Arrays.equals(before, x.status()) ? 1 : 0, 1);
            String got = Scene.changes(untouched(RICH + "; wipe"), x.all());
            Check.due("fault of " + texts[i] + " changes " + got, got.length(), 0);
        }
    }
}
