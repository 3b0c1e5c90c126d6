import java.util.Arrays;
import java.util.HashMap;
import java.util.Map;

/**
 * Promises 1 to 46: for each call the last value that may be and the first that may not, on both sides; nothing there
 * at all; full, and one more; of several findings the one that is asked first. Each refused call is held against an
 * object on which it was not made: nothing but status() may tell of it, and that by one of its finding.
 */
public final class EdgesTest {
    private static final int BEYOND = Check.BEYOND;
    private static final int FULL = Check.FULL;
    private static final int KIND = Check.KIND;
    private static final int NONE = Check.NONE;
    private static final int STATE = Check.STATE;
    private static final int MISSING = Check.MISSING;
    private static final int SIZE = Check.SIZE;

    // March, so that all may be done; June is the first month in which none may be planted.
    private static final String RICH = "rich 27";
    private static final String FULL_ONE = "full 27";
    private static final String SUMMER = "rich 30";

    private static final Map<String, Map<String, Long>> UNTOUCHED = new HashMap<>();

    public static void main(String[] args) {
        nothingThere();
        soilAndPrice();
        coin();
        ofAndSet();
        turnAndAs();
        swap();
        plant();
        purse();
        pay();
        whichAndOver();
        loan();
        loanOf();
        months();
        now();
        on();
        purseOn();
        rich();
        rots();
        when();
        lacks();
        best();
        kind();
        cellar();
        field();
        priceFor();
        taxMonth();
        bank();
        feed();
        sheet();
        write();
        copy();
        lays();
        book();
        read();
        images();
        count();
        status();
        Check.finish("EdgesTest");
    }

    // ---- how an edge is asked

    private static boolean isFinding(long answer) {
        return answer <= BEYOND && answer >= SIZE;
    }

    private static void due(String scene, String call, long want) {
        Scene x = Scene.told(scene);
        long[] before = x.status();
        long got = x.ask(call);
        long[] after = x.status();
        String about = scene + ": " + call;
        Check.due(about, got, want);
        if (isFinding(want)) {
            before[0]++;
            before[1 + BEYOND - (int) want]++;
            Map<String, Long> twin = UNTOUCHED.computeIfAbsent(scene, s -> Scene.told(s).all());
            String changes = Scene.changes(twin, x.all());
            Check.due(about + " changes " + changes, changes.length(), 0);
        }
        Check.due(about + ": status is " + Arrays.toString(after), Arrays.equals(before, after) ? 1 : 0, 1);
    }

    /** The # in a call goes from the least to the most: these are not BEYOND, those next to them and far away are. */
    private static void range(String scene, String call, int least, int most) {
        int[] fine = {least, most};
        for (int v : fine) {
            String asked = call.replace("#", Integer.toString(v));
            Check.due(scene + ": " + asked + " is BEYOND", Scene.told(scene).ask(asked) == BEYOND ? 1 : 0, 0);
        }
        int[] beyond = {least - 1, most + 1, Integer.MIN_VALUE, Integer.MAX_VALUE};
        for (int v : beyond) {
            due(scene, call.replace("#", Integer.toString(v)), BEYOND);
        }
    }

    /** Where n MONTHS may just go on to the last one, and where they may not. */
    private static void lastMonths(String call, int n) {
        String asked = call.replace("#", Integer.toString(n));
        String fine = "rich " + (9999 - n);
        Check.due(fine + ": " + asked + " is STATE", Scene.told(fine).ask(asked) == STATE ? 1 : 0, 0);
        due("rich " + (10000 - n), asked, STATE);
    }

    // ---- nothing there at all

    private static void nothingThere() {
        String[] beyond = {"of 0 0", "set 0 1 0", "turn 0 0", "as 0 0", "swap 0 0", "plant 0", "loanOf 0 0", "on 0 0", "rots 0",
            "when 0", "best 0 1", "kind 0 1"};
        for (String call : beyond) {
            due("empty 0", call, BEYOND);
        }
        String[] none = {"cellar 1", "priceFor 0 1", "bank", "undo"};
        for (String call : none) {
            due("empty 0", call, NONE);
        }
        String[] missing = {"write 0 0 0", "copy 0 0 1 0 0", "copy 0 0 0 0 0", "lays 3", "book 2 0", "read 1 0"};
        for (String call : missing) {
            due("empty 0", call, MISSING);
        }
        String[] nothing = {"purse 0", "which 0 1", "pay 0 1 1", "tax", "months 1", "now 0", "now 1", "now 2", "now 3", "now 4",
            "now 5", "purseOn 3 120", "rich 120", "lacks 120", "priceFor 0 0", "taxMonth", "wipe", "tear", "count 0", "count 1",
            "count 2", "count 3", "count 4", "status -1", "status 0", "status 6"};
        for (String call : nothing) {
            due("empty 0", call, 0);
        }
        due("empty 0", "over 0 1", -1);
        due("empty 0", "market", -1);
        due("empty 2", "field 0 1", 0);
        due("empty 0; sheet 0 8 3", "book 0 0", 0);
        due("empty 0; sheet 0 8 3", "read 0 0", 0);
        due("empty 0; sheet 0 8 0", "lays 0", 0);
        due("empty 0", "image", 1);
        due("empty 0; image", "undo", 0);
    }

    // ---- the market, coins

    private static void soilAndPrice() {
        range(RICH, "soil # 5", 0, 3);
        range(RICH, "soil 0 #", 0, 9);
        due(RICH, "soil 0 0", 1);
        due(RICH, "soil 3 9", 9);
        due(RICH, "soil 4 10", BEYOND);
        range(RICH, "price # 5", 0, 11);
        range(RICH, "price 0 #", 0, 99);
        due(RICH, "price 0 99", 5);
        due(RICH, "price 11 0", 82);
        due(RICH, "price 12 100", BEYOND);
    }

    private static void coin() {
        range(RICH, "coin # 0 1", 0, 5);
        range(RICH, "coin 0 # 1", 0, 3);
        range(RICH, "coin 0 0 #", 0, 99);
        due(RICH, "coin 5 3 99", 7);
        due(RICH, "coin 0 0 0", 7);
        due(RICH + "; coin 0 0 1; coin 0 0 1; coin 0 0 1; coin 0 0 1", "coin 0 0 1", 11);
        due(FULL_ONE, "coin 0 0 1", FULL);
        due(FULL_ONE, "coin 5 3 99", FULL);
        due(FULL_ONE, "coin 6 0 1", BEYOND);
        due(FULL_ONE, "coin 0 4 1", BEYOND);
        due(FULL_ONE, "coin 0 0 100", BEYOND);
    }

    private static void ofAndSet() {
        range(RICH, "of # 0", 0, 6);
        range(FULL_ONE, "of # 7", 0, 11);
        range(RICH, "of 0 #", 0, 7);
        int[] due = {5, 3, 21, 0, 54, 1, 10, 0};
        for (int what = 0; what < 8; what++) {
            due(FULL_ONE, "of 11 " + what, due[what]);
        }
        range(RICH, "set # 1 0", 0, 6);
        range(FULL_ONE, "set # 3 1", 0, 11);
        range(RICH, "set 0 # 1", 1, 3);
        range(RICH, "set 0 1 #", 0, 3);
        range(RICH, "set 0 2 #", 0, 99);
        range(RICH, "set 0 3 #", 0, 2);
        due(RICH, "set 0 0 1", BEYOND);
        due(RICH, "set 0 4 1", BEYOND);
        due(RICH, "set 7 0 100", BEYOND);
        due(RICH, "set 6 1 3", 3);
        due(RICH, "set 6 2 0", 12);
        due(RICH, "set 2 3 0", 1);
        due(RICH, "set 3 3 2", 2);
    }

    private static void turnAndAs() {
        range(RICH, "turn # 0", 0, 6);
        range(RICH, "turn 0 #", 0, 5);
        due(RICH, "turn 7 6", BEYOND);
        due(RICH, "turn 5 5", 5);
        range(RICH, "as # 0", 0, 6);
        range(RICH, "as 0 #", 0, 5);
        due(RICH, "as 7 6", BEYOND);
        String[] under = {"0", "01", "02", "03", "024", "015"};
        int[] sizes = {90, 40, 70, 6, 80, 33};
        for (int c = 0; c < 6; c++) {
            for (int k = 0; k < 6; k++) {
                due(RICH, "as " + c + " " + k, under[c].indexOf('0' + k) >= 0 ? sizes[c] : KIND);
            }
        }
    }

    private static void swap() {
        range(RICH, "swap # 0", 0, 6);
        range(RICH, "swap 0 #", 0, 6);
        range(FULL_ONE, "swap # 0", 0, 11);
        due(RICH, "swap 7 7", BEYOND);
        due(RICH, "swap -1 -1", BEYOND);
        due(RICH, "swap 6 6", 1);
        due(RICH, "swap 6 0", 1);
    }

    private static void plant() {
        range(RICH, "plant #", 0, 6);
        range(SUMMER, "plant #", 0, 6);
        due(RICH, "plant 2", STATE);
        due(RICH, "plant 3", STATE);
        due(RICH + "; set 0 2 0", "plant 0", 0);
        // The SEASONS of two years: 2 to 5 of each.
        for (int month = 11; month < 35; month++) {
            boolean may = month % 12 >= 2 && month % 12 <= 5;
            due("rich " + month, "plant 0", may ? 90 : STATE);
            due("rich " + month, "plant 2", STATE);
        }
        due("rich 9998", "plant 0", 90);
        due("rich 9997", "plant 0", STATE);
    }

    private static void purse() {
        range(RICH, "purse #", 0, 3);
        due(RICH, "purse 0", 338);
        due(RICH, "purse 1", 0);
        due(RICH, "purse 3", 31);
        due(FULL_ONE, "purse 3", 129);
    }

    // ---- payments, loans

    private static void pay() {
        range(RICH, "pay # 1 5", 2, 3);
        range(RICH, "pay 0 # 5", 1, 3);
        range(RICH, "pay 0 1 #", 1, 9999);
        due(RICH, "pay 0 1 5", 2);
        for (int owner = 0; owner < 4; owner++) {
            due(RICH, "pay " + owner + " " + owner + " 5", BEYOND);
        }
        due(RICH, "pay 3 0 1", 64);
        due(RICH, "pay 3 0 31", 64);
        due(RICH, "pay 3 0 32", 64);
        due(RICH, "pay 1 0 1", 0);
        due(RICH, "pay 0 3 9999", 3);
    }

    private static void whichAndOver() {
        range(RICH, "which # 5", 0, 3);
        range(RICH, "which 0 #", 1, 9999);
        range(RICH, "over # 5", 0, 3);
        range(RICH, "over 0 #", 1, 9999);
        due(RICH, "which 0 104", 2);
        due(RICH, "which 0 105", 1);
        due(RICH, "which 0 234", 1);
        due(RICH, "which 0 235", 3);
        due(RICH, "which 0 338", 3);
        due(RICH, "which 0 339", 3);
        due(RICH, "over 0 1", 103);
        due(RICH, "over 0 104", 0);
        due(RICH, "over 0 105", 129);
        due(RICH, "over 0 338", 0);
        due(RICH, "over 0 339", -1);
        due(RICH, "over 0 9999", -9661);
        due(RICH, "over 1 9999", -9999);
    }

    private static void loan() {
        range(RICH, "loan # 1 5 5", 2, 3);
        range(RICH, "loan 0 # 5 5", 1, 3);
        range(RICH, "loan 0 1 # 5", 1, 9999);
        range(RICH, "loan 0 1 5 #", 1, 120);
        due(RICH, "loan 0 1 5 5", 3);
        for (int owner = 0; owner < 4; owner++) {
            due(RICH, "loan " + owner + " " + owner + " 5 5", BEYOND);
        }
        lastMonths("loan 0 1 5 #", 120);
        lastMonths("loan 0 1 5 #", 1);
        due("rich 9999", "loan 0 0 5 1", BEYOND);
        due("rich 9999", "loan 4 1 5 1", BEYOND);
        due("rich 9999", "loan 0 1 0 1", BEYOND);
        due("rich 9999", "loan 0 1 5 0", BEYOND);
        due("rich 9999", "loan 0 1 5 121", BEYOND);
        due(FULL_ONE, "loan 0 1 5 5", FULL);
        due(FULL_ONE, "loan 0 1 10000 5", BEYOND);
        due(FULL_ONE, "loan 2 2 5 5", BEYOND);
        due("full 9998", "loan 0 1 5 2", STATE);
        due("full 9998", "loan 0 1 5 1", FULL);
        due(RICH + "; loan 0 1 1 1; loan 0 1 1 1; loan 0 1 1 1; loan 0 1 1 1", "loan 3 2 9999 120", 7);
    }

    private static void loanOf() {
        range(RICH, "loanOf # 0", 0, 2);
        range(FULL_ONE, "loanOf # 4", 0, 7);
        range(RICH, "loanOf 0 #", 0, 4);
        due(RICH, "loanOf 3 5", BEYOND);
        int[] due = {2, 3, 4, 28, 0};
        for (int what = 0; what < 5; what++) {
            due(FULL_ONE, "loanOf 7 " + what, due[what]);
        }
        due(RICH, "loanOf 0 4", 1);
    }

    // ---- months

    private static void months() {
        range(RICH, "months #", 1, 120);
        lastMonths("months #", 120);
        lastMonths("months #", 1);
        due("rich 9999", "months 0", BEYOND);
        due("rich 9999", "months 121", BEYOND);
        due("rich 9999", "months 120", STATE);
        due("rich 9998", "months 1", 0);
    }

    private static void now() {
        range(RICH, "now #", 0, 5);
        int[] due = {27, 3, 55, 5, 1, 1};
        for (int what = 0; what < 6; what++) {
            due(RICH, "now " + what, due[what]);
        }
        due("empty 11", "now 1", 11);
        due("empty 12", "now 1", 0);
        due("empty 9999", "now 0", 9999);
        due("empty 9999", "now 1", 3);
    }

    // ---- on

    private static void on() {
        range(RICH, "on # 5", 0, 6);
        range(RICH, "on 0 #", 0, 120);
        lastMonths("on 0 #", 120);
        lastMonths("on 0 #", 1);
        due("rich 9999", "on 0 0", 90);
        due("rich 9999", "on 7 1", BEYOND);
        due("rich 9999", "on 0 121", BEYOND);
        due(RICH, "on 0 0", 90);
        due(RICH, "on 0 1", 87);
        due(RICH, "on 3 5", 6);
        due(RICH, "on 3 6", 60);
        due(RICH, "on 2 120", 70);
    }

    private static void purseOn() {
        range(RICH, "purseOn # 5", 0, 3);
        range(RICH, "purseOn 0 #", 0, 120);
        lastMonths("purseOn 0 #", 120);
        lastMonths("purseOn 0 #", 1);
        due("rich 9999", "purseOn 0 0", 338);
        due("rich 9999", "purseOn 4 1", BEYOND);
        due("rich 9999", "purseOn 0 -1", BEYOND);
        due(RICH, "purseOn 0 0", 338);
        due(RICH, "purseOn 1 1", 0);
    }

    private static void rich() {
        range(RICH, "rich #", 0, 120);
        lastMonths("rich #", 120);
        lastMonths("rich #", 1);
        due("rich 9999", "rich 0", 0);
        due("rich 9999", "rich 121", BEYOND);
    }

    private static void rots() {
        range(RICH, "rots #", 0, 6);
        due(RICH, "rots 2", 0);
        due(RICH, "rots 1", NONE);
        due("rich 9879", "rots 2", 0);
        due("rich 9880", "rots 2", STATE);
        due("rich 9880", "rots 0", STATE);
        due("rich 9880", "rots 1", STATE);
        due("rich 9999", "rots 0", STATE);
        due("rich 9880", "rots 7", BEYOND);
        due("rich 9880", "rots -1", BEYOND);
    }

    private static void when() {
        range(RICH, "when #", 0, 6);
        due(RICH, "when 2", 0);
        Check.due("when at 9975", Scene.told("rich 9975").ask("when 0") == STATE ? 1 : 0, 0);
        due("rich 9976", "when 0", STATE);
        due("rich 9999", "when 0", STATE);
        due("rich 9976", "when 7", BEYOND);
        due("rich 9976", "when -1", BEYOND);
    }

    private static void lacks() {
        range(RICH, "lacks #", 0, 120);
        lastMonths("lacks #", 120);
        lastMonths("lacks #", 1);
        due("rich 9999", "lacks 0", 0);
        due("rich 9999", "lacks 121", BEYOND);
        due(RICH, "lacks 1", 0);
    }

    // ---- what to do

    private static void best() {
        range(RICH, "best # 5", 0, 6);
        range(RICH, "best 0 #", 1, 24);
        due(RICH, "best 2 5", STATE);
        due(RICH, "best 3 5", STATE);
        due(RICH, "best 2 0", BEYOND);
        due(RICH, "best 3 25", BEYOND);
        lastMonths("best 0 #", 24);
        lastMonths("best 0 #", 1);
        due("rich 9999", "best 0 25", BEYOND);
        due("rich 9999", "best 7 1", BEYOND);
    }

    private static void kind() {
        range(RICH, "kind # 5", 0, 6);
        range(RICH, "kind 0 #", 1, 120);
        lastMonths("kind 0 #", 120);
        lastMonths("kind 0 #", 1);
        due("rich 9999", "kind 0 0", BEYOND);
        due("rich 9999", "kind 0 121", BEYOND);
        due("rich 9999", "kind 7 1", BEYOND);
        due(RICH, "kind 2 5", 0);
    }

    private static void cellar() {
        range(RICH, "cellar #", 1, 60);
        lastMonths("cellar #", 60);
        lastMonths("cellar #", 1);
        due("rich 9999", "cellar 0", BEYOND);
        due("rich 9999", "cellar 61", BEYOND);
        due("empty 9999", "cellar 1", STATE);
        due(RICH, "cellar 1", NONE);
        due("empty 0; coin 0 0 9", "cellar 60", NONE);
        // As many as without are not more.
        due("empty 0; coin 0 0 90; coin 0 0 90; coin 0 0 90; set 0 3 1", "cellar 1", NONE);
        due("empty 0; coin 0 0 90; coin 0 0 90; coin 0 0 90; set 1 3 1", "cellar 1", 1);
    }

    private static void field() {
        range(RICH, "field # 5", 0, 3);
        range(RICH, "field 0 #", 1, 24);
        for (int month = 11; month < 35; month++) {
            boolean may = month % 12 >= 2 && month % 12 <= 5;
            due("rich " + month, "field 1 5", may ? 0 : STATE);
        }
        due(SUMMER, "field 4 5", BEYOND);
        due(SUMMER, "field 0 25", BEYOND);
        // 9975 and 9999 are in April, 9976 is in May, 9998 in March: the SEASON is no hindrance there.
        Check.due("field at 9975", Scene.told("rich 9975").ask("field 0 24") == STATE ? 1 : 0, 0);
        due("rich 9976", "field 0 24", STATE);
        due("rich 9976", "field 1 23", 0);
        due("rich 9998", "field 1 1", 0);
        due("rich 9999", "field 1 1", STATE);
        due("rich 9999", "field 4 1", BEYOND);
        String six = FULL_ONE + "; set 0 1 3; set 1 1 3; set 8 1 3";
        due(six, "of 8 3", 0);
        Check.due("six SOUND ones", isFinding(Scene.told(six).ask("field 3 1")) ? 1 : 0, 0);
        due(six + "; set 9 1 3", "field 3 1", SIZE);
        due(six + "; set 9 1 3", "field 3 25", BEYOND);
        due(six + "; set 9 1 3", "field 4 1", BEYOND);
        due(six + "; set 9 1 3", "field 2 1", 0);
        String rest = "; set 9 1 3; set 9 3 1; set 2 1 3; set 3 1 3";
        Check.due("six SOUND ones, and ROTTEN and PLANTED ones", isFinding(Scene.told(six + rest).ask("field 3 1")) ? 1 : 0, 0);
        String seven = "; set 0 1 3; set 1 1 3; set 8 1 3; set 9 1 3";
        due("full 30" + seven, "field 3 1", STATE);
        due("full 9999" + seven, "field 3 1", STATE);
        due("full 9998" + seven, "field 3 1", SIZE);
    }

    private static void priceFor() {
        range(RICH, "priceFor # 0", 0, 3);
        range(RICH, "priceFor 0 #", 0, 9999);
        due(RICH, "priceFor 0 0", 0);
        due(RICH, "priceFor 0 1", 1);
        due(RICH, "priceFor 0 13", 1);
        due(RICH, "priceFor 0 14", 2);
        due(RICH, "priceFor 0 1274", 98);
        due(RICH, "priceFor 0 1275", 99);
        due(RICH, "priceFor 0 1287", 99);
        due(RICH, "priceFor 0 1288", NONE);
        due(RICH, "priceFor 0 9999", NONE);
        due(RICH, "priceFor 1 0", 0);
        due(RICH, "priceFor 1 1", NONE);
        due(RICH, "priceFor 4 9999", BEYOND);
    }

    private static void taxMonth() {
        Check.due("taxMonth at 9987", isFinding(Scene.told("rich 9987").ask("taxMonth")) ? 1 : 0, 0);
        due("rich 9988", "taxMonth", STATE);
        due("rich 9999", "taxMonth", STATE);
        due("empty 9987", "taxMonth", 0);
        due("empty 9988", "taxMonth", STATE);
    }

    private static void bank() {
        due("empty 0; coin 1 3 0", "bank", 3);
        due(RICH, "bank", 0);
        due(RICH + "; set 1 3 2; set 5 3 1; set 6 3 1", "bank", NONE);
        due(RICH + "; turn 1 0; turn 5 2; turn 6 4", "bank", NONE);
    }

    // ---- the text

    private static void feed() {
        range(RICH, "feed 32 #", 1, 4);
        range(FULL_ONE, "feed 32 #", 1, 4);
        due(RICH, "feed -2147483648 4", 29);
        due(RICH, "feed 2147483647 1", 26);
        due(FULL_ONE, "feed 0 1", 119);
        due(FULL_ONE, "feed 0 2", 120);
        due(FULL_ONE, "feed 0 3", FULL);
        due(FULL_ONE, "feed 0 4", FULL);
        due(FULL_ONE + "; feed 0 1", "feed 0 1", 120);
        due(FULL_ONE + "; feed 0 1", "feed 0 2", FULL);
        due(FULL_ONE + "; feed 0 2", "feed 0 1", FULL);
        due(FULL_ONE + "; feed 0 2", "feed 0 0", BEYOND);
        due(FULL_ONE + "; feed 0 2", "wipe", 120);
        due(FULL_ONE + "; feed 0 2; wipe", "feed 0 4", 4);
    }

    // ---- sheets

    private static void sheet() {
        range(RICH, "sheet # 8 5", 0, 3);
        int[] fine = {8, 16, 64};
        for (int bits : fine) {
            due(RICH, "sheet 0 " + bits + " 0", 0);
            due(RICH, "sheet 3 " + bits + " 40", 40);
            due(RICH, "sheet 0 " + bits + " 41", BEYOND);
            due(RICH, "sheet 0 " + bits + " -1", SIZE);
            due(RICH, "sheet 0 " + bits + " " + Integer.MAX_VALUE, BEYOND);
            due(RICH, "sheet 0 " + bits + " " + Integer.MIN_VALUE, SIZE);
        }
        int[] other = {-64, -8, -1, 1, 7, 9, 15, 17, 24, 32, 63, 65, 128, Integer.MAX_VALUE, Integer.MIN_VALUE};
        for (int bits : other) {
            due(RICH, "sheet 0 " + bits + " 5", BEYOND);
            due(RICH, "sheet 0 " + bits + " -1", BEYOND);
        }
        due(RICH, "sheet 0 0 0", 0);
        due(RICH, "sheet 0 0 40", 0);
        due(RICH, "sheet 3 0 7", 0);
        due(RICH, "sheet 0 0 41", BEYOND);
        due(RICH, "sheet 0 0 -1", SIZE);
        due(RICH, "sheet 4 8 -1", BEYOND);
        due(RICH, "sheet -1 0 -1", BEYOND);
    }

    private static void write() {
        range(RICH, "write # 0 1", 0, 3);
        range(RICH, "write 0 # 1", 0, 4);
        range(RICH, "write 2 # 1", 0, 3);
        range(RICH + "; sheet 3 64 40", "write 3 # 1", 0, 39);
        due(RICH, "write 3 0 1", MISSING);
        due(RICH, "write 3 -1 1", MISSING);
        due(RICH, "write 4 0 1", BEYOND);
        due(RICH + "; sheet 0 16 0", "write 0 0 1", BEYOND);
        due(RICH + "; sheet 0 0 5", "write 0 0 1", MISSING);
        long[] values = {127, 128, 255, 256, -1, -128, -129, 32767, 32768, 65535, 65536, Long.MAX_VALUE, Long.MIN_VALUE};
        for (long v : values) {
            due(RICH + "; write 0 0 " + v, "write 0 0 0", (byte) v);
            due(RICH + "; write 1 0 " + v, "write 1 0 0", (short) v);
            due(RICH + "; write 2 0 " + v, "write 2 0 0", v);
        }
    }

    private static void copy() {
        String twins = RICH + "; sheet 3 16 4; write 3 1 5";
        range(RICH, "copy # 0 0 0 1", 0, 3);
        range(RICH, "copy 0 0 # 0 1", 0, 3);
        due(RICH, "copy 4 0 3 0 -1", BEYOND);
        due(RICH, "copy 3 0 4 0 -1", BEYOND);
        due(RICH, "copy 3 0 0 0 1", MISSING);
        due(RICH, "copy 0 0 3 0 1", MISSING);
        due(RICH, "copy 3 -1 3 -1 -1", MISSING);
        due(RICH, "copy 0 0 1 0 1", KIND);
        due(RICH, "copy 1 0 2 0 0", KIND);
        due(RICH, "copy 2 -1 0 -1 -1", KIND);
        range(twins, "copy 1 # 3 0 4", 0, 2);
        range(twins, "copy 1 0 3 # 3", 0, 1);
        range(twins, "copy 1 0 3 0 #", 0, 4);
        range(twins, "copy 3 0 1 0 #", 0, 4);
        range(twins, "copy 1 # 3 4 0", 0, 6);
        range(twins, "copy 1 6 3 # 0", 0, 4);
        due(twins, "copy 1 2147483647 3 2147483647 2147483647", BEYOND);
        due(twins, "copy 1 2 3 0 4", 4);
        due(twins, "copy 1 6 3 4 0", 0);
    }

    private static void lays() {
        due(RICH, "lays -1", BEYOND);
        due(RICH, "lays 4", BEYOND);
        due(RICH, "lays 2147483647", BEYOND);
        due(RICH, "lays -2147483648", BEYOND);
        due(RICH, "lays 3", MISSING);
        due(RICH, "lays 0", 4);
        due(RICH + "; write 0 4 100", "lays 0", 3);
        due(RICH + "; sheet 3 64 40", "lays 3", 12);
    }

    private static void book() {
        due(RICH, "book -1 0", BEYOND);
        due(RICH, "book 4 0", BEYOND);
        due(RICH, "book 4 -1", BEYOND);
        due(RICH, "book 3 0", MISSING);
        due(RICH, "book 3 -1", MISSING);
        due("rich 9999", "book 3 1", MISSING);
        range(RICH, "book 0 #", 0, 120);
        lastMonths("book 0 #", 120);
        lastMonths("book 0 #", 1);
        due("rich 9999", "book 0 121", BEYOND);
        due("rich 9999", "book 0 0", 5);
        due(RICH, "book 1 0", 6);
        due(RICH + "; sheet 3 16 7", "book 3 0", 7);
        due(RICH + "; sheet 3 16 8", "book 3 0", 7);
        due(FULL_ONE + "; sheet 3 16 40", "book 3 0", 12);
    }

    private static void read() {
        due(RICH, "read -1 0", BEYOND);
        due(RICH, "read 4 0", BEYOND);
        due(RICH, "read 4 4", BEYOND);
        due(RICH, "read 3 0", MISSING);
        due(RICH, "read 3 4", MISSING);
        due("rich 9999", "read 3 0", MISSING);
        range(RICH, "read 0 #", 0, 3);
        due("rich 9959", "read 0 0", 1);
        due("rich 9960", "read 0 0", STATE);
        due("rich 9960; sheet 0 8 0", "read 0 0", STATE);
        due("rich 9960", "read 0 4", BEYOND);
        due("rich 9999", "read 0 -1", BEYOND);
        due("empty 9959; sheet 0 8 40", "read 0 0", 0);
        due("empty 9959; sheet 0 8 40; write 0 39 1", "read 0 0", 40);
        due("empty 9959; sheet 0 8 40; write 0 0 1", "read 0 0", 1);
        due("empty 9959; sheet 0 8 0", "read 0 0", 0);
    }

    // ---- images

    private static void images() {
        due(RICH + "; tear", "undo", NONE);
        due(RICH + "; tear", "tear", 0);
        due(RICH, "tear", 1);
        due(RICH, "undo", 2);
        due(RICH, "image", 1);
        due(RICH + "; image", "undo", 7);
        due(FULL_ONE + "; image", "undo", 12);
    }

    private static void count() {
        range(RICH, "count #", 0, 4);
        int[] due = {7, 3, 2, 25, 331};
        int[] full = {12, 8, 7, 118, 426};
        for (int what = 0; what < 5; what++) {
            due(RICH, "count " + what, due[what]);
            due(FULL_ONE, "count " + what, full[what]);
        }
    }

    private static void status() {
        range(RICH, "status #", -1, 6);
        due(RICH, "status 3", 1);
        due(RICH, "status -1", 1);
        due(RICH + "; status 7", "status 0", 1);
        due(RICH + "; status 7; status -2", "status -1", 3);
    }
}
