import java.lang.reflect.Method;
import java.lang.reflect.Modifier;
import java.util.HashMap;
import java.util.LinkedHashMap;
import java.util.Map;

/**
 * Markets in which edges are asked, calls told as text ("coin 0 3 99"), and all that calls can show of an object, by
 * labels. What a scene holds is the same in every month, but for the months in which its loans are due.
 */
final class Scene {
    private static final int MOST_CALLS = 512;
    private static final Map<String, Method> METHODS = methods();
    private static final String[] OF_COIN = {"kind", "owner", "size", "state"};
    private static final String[] OF_LOAN = {"from", "to", "v", "due", "paid"};
    private static final String[] OF_NOW = {"month", "season", "lacked", "sound", "rotten", "planted"};
    private static final String[] OF_COUNT = {"coins", "loans", "unpaid", "tape", "sizes"};

    private final SproutCoins x = new SproutCoins();
    private final Map<String, Long> shown = new LinkedHashMap<>();
    private int calls = 0;

    private Scene() {
    }

    /** Told as "empty 0", "rich 27", "full 9999": which, and the month; calls may follow, as in "empty 2; coin 0 0 9". */
    static Scene told(String told) {
        String[] parts = told.split("; ");
        Scene s = begun(parts[0]);
        for (int i = 1; i < parts.length; i++) {
            s.ask(parts[i]);
        }
        return s;
    }

    private static Scene begun(String told) {
        String[] parts = told.split(" ");
        int month = Integer.parseInt(parts[1]);
        switch (parts[0]) {
            case "empty":
                return empty(month);
            case "rich":
                return rich(month);
            case "full":
                return full(month);
            default:
                throw new IllegalArgumentException(told);
        }
    }

    /** A new object that months alone went over. */
    private static Scene empty(int month) {
        Scene s = new Scene();
        for (int left = month; left > 0; left -= 120) {
            s.ask("months " + Math.min(left, 120));
        }
        return s;
    }

    /**
     * Seven coins of all kinds and states, three loans (0 is PAID), soils and prices unlike those at first, 55 is
     * lacked, sheets 0 to 2 have numbers (3 is MISSING), a text is on the tape, and an older market is kept.
     */
    private static Scene rich(int month) {
        Scene s = furnished(month);
        s.feed("soil 1 7;red of 3 size 44");
        return s;
    }

    /** As rich(), with twelve coins, eight loans and 118 bytes on the tape. */
    private static Scene full(int month) {
        Scene s = furnished(month);
        for (int c = 7; c < 12; c++) {
            s.ask("coin " + c % 6 + " " + c % 4 + " " + (10 + c));
        }
        s.feed("loan 2 to 3 4 in 1" + ";loan 2 to 3 4 in 1".repeat(4));
        s.ask("market");
        String text = "soil 1 7;price 0 6";
        s.feed(text + " ".repeat(118 - text.length()));
        return s;
    }

    private static Scene furnished(int month) {
        Scene s = empty(month - 1);
        s.askAll("loan 3 0 5 1", "months 1", "undo", "coin 0 0 90", "coin 1 0 40", "image");
        s.askAll("soil 0 1", "soil 1 2", "soil 2 8", "soil 3 9");
        for (int season = 0; season < 12; season++) {
            s.ask("price " + season + " " + (5 + 7 * season));
        }
        s.askAll("coin 2 1 70", "coin 3 1 6", "coin 4 2 80", "coin 5 2 33", "coin 1 3 12", "set 2 3 1", "set 3 3 2");
        // By the text, which may tell of a month above 9999.
        s.feed("loan 0 to 1 60 in 2;loan 1 to 2 300 in 7");
        s.askAll("market", "pay 1 3 50", "sheet 0 8 5", "sheet 1 16 6", "sheet 2 64 4");
        s.askAll("write 0 1 -7", "write 0 4 99", "write 1 0 338", "write 1 5 -1", "write 2 2 5000000000", "write 2 3 8");
        return s;
    }

    private static Map<String, Method> methods() {
        Map<String, Method> all = new HashMap<>();
        for (Method m : SproutCoins.class.getDeclaredMethods()) {
            if (Modifier.isPublic(m.getModifiers())) {
                all.put(m.getName(), m);
            }
        }
        return all;
    }

    // ---- calls

    long ask(String call) {
        calls++;
        if (calls > MOST_CALLS) {
            throw new IllegalStateException("the document speaks of " + MOST_CALLS + " calls: " + call);
        }
        String[] parts = call.split(" ");
        Method m = METHODS.get(parts[0]);
        Object[] arguments = new Object[parts.length - 1];
        for (int i = 0; i < arguments.length; i++) {
            boolean isLong = m.getParameterTypes()[i] == long.class;
            arguments[i] = isLong ? (Object) Long.valueOf(parts[i + 1]) : (Object) Integer.valueOf(parts[i + 1]);
        }
        try {
            return ((Number) m.invoke(x, arguments)).longValue();
        } catch (ReflectiveOperationException e) {
            throw new IllegalStateException(call, e);
        }
    }

    private void askAll(String... all) {
        for (String call : all) {
            ask(call);
        }
    }

    private void feed(String text) {
        calls += (text.length() + 3) / 4;
        Check.feed(x, text);
    }

    /** The tape is wiped, and a text told. */
    long tell(String text) {
        ask("wipe");
        feed(text);
        return ask("market");
    }

    long[] status() {
        long[] all = new long[8];
        for (int which = -1; which <= 6; which++) {
            all[which + 1] = ask("status " + which);
        }
        return all;
    }

    // ---- what there is

    /**
     * All that can be seen but for status(): the market, the sheets, then what undo() brings back, and what the text
     * on the tape tells. The looking itself changes the object, so it is done at the end.
     */
    Map<String, Long> all() {
        shown.clear();
        showMarket("");
        for (int s = 0; s < 4; s++) {
            showSheet(s);
        }
        show("kept", "undo");
        showMarket("kept ");
        show("text", "market");
        show("text coins", "count 0");
        show("text loans", "count 1");
        show("text soil 1", "soil 1 0");
        show("text price 0", "price 0 0");
        show("text coin 2 size", "of 2 2");
        return shown;
    }

    private long show(String label, String call) {
        long answer = ask(call);
        shown.put(label, answer);
        return answer;
    }

    private void showMarket(String ahead) {
        for (int what = 0; what < OF_NOW.length; what++) {
            show(ahead + OF_NOW[what], "now " + what);
        }
        for (int what = 0; what < OF_COUNT.length; what++) {
            show(ahead + OF_COUNT[what], "count " + what);
        }
        for (int c = 0; c < shown.get(ahead + "coins"); c++) {
            for (int what = 0; what < OF_COIN.length; what++) {
                show(ahead + "coin " + c + " " + OF_COIN[what], "of " + c + " " + what);
            }
        }
        for (int i = 0; i < shown.get(ahead + "loans"); i++) {
            for (int what = 0; what < OF_LOAN.length; what++) {
                show(ahead + "loan " + i + " " + OF_LOAN[what], "loanOf " + i + " " + what);
            }
        }
        for (int owner = 0; owner < 4; owner++) {
            ask("soil " + owner + " " + show(ahead + "soil " + owner, "soil " + owner + " 0"));
        }
        for (int season = 0; season < 12; season++) {
            ask("price " + season + " " + show(ahead + "price " + season, "price " + season + " 0"));
        }
    }

    /** Its numbers, how many there are, and what it keeps of a number of 64 bits, which tells its bits. */
    private void showSheet(int s) {
        String label = "sheet " + s;
        int i = 0;
        long was = ask("write " + s + " 0 4294968193");
        while (was > Check.BEYOND || was < Check.SIZE) {
            shown.put(label + " number " + i, was);
            i++;
            was = ask("write " + s + " " + i + " 0");
        }
        shown.put(label + " many", was == Check.MISSING ? -1L : i);
        shown.put(label + " keeps", i == 0 ? 0 : ask("write " + s + " 0 0"));
    }

    /** Where another one shows something else, as "label=value" each, joined by ", "; "-" for what it doesn't show. */
    static String changes(Map<String, Long> before, Map<String, Long> after) {
        StringBuilder text = new StringBuilder();
        Map<String, Long> labels = new LinkedHashMap<>(before);
        labels.putAll(after);
        for (String label : labels.keySet()) {
            Long is = after.get(label);
            if (is == null || !is.equals(before.get(label))) {
                text.append(text.length() == 0 ? "" : ", ").append(label).append('=').append(is == null ? "-" : is.toString());
            }
        }
        return text.toString();
    }
}
