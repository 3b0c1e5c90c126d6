import java.lang.reflect.Method;
import java.util.ArrayList;
import java.util.HashMap;
import java.util.List;
import java.util.Map;
import java.util.Random;

/** All promises: runs of calls drawn by fixed seeds, each answer held against PlainModel's. */
public final class RandomRunsTest {
    private static final int RUNS = 600;
    private static final int CALLS = 512;

    /** Each call with the range of each argument; the drawing goes a little beyond it, and seldom far. */
    private static final String[] CALLS_AND_RANGES = {
        "soil 0 3 0 9", "price 0 11 0 99", "coin 0 5 0 3 0 99", "coin 0 5 0 3 0 99", "of 0 11 0 7", "of 0 11 0 7",
        "set 0 11 1 3 0 3", "set 0 11 2 2 0 99", "turn 0 11 0 5", "as 0 11 0 5", "swap 0 11 0 11", "plant 0 11", "plant 0 11",
        "purse 0 3", "pay 0 3 0 3 1 200", "which 0 3 1 300", "over 0 3 1 300", "which 0 3 1 9999", "over 0 3 1 9999",
        "loan 0 3 0 3 1 200 1 30", "loan 0 3 0 3 1 9999 1 120", "loanOf 0 7 0 4", "loanOf 0 7 0 4", "tax", "months 1 3",
        "months 1 3", "now 0 5", "now 0 5", "on 0 11 0 120", "on 0 11 0 12", "purseOn 0 3 0 30", "purseOn 0 3 0 120", "rich 0 30",
        "rots 0 11", "when 0 11", "lacks 0 120", "best 0 11 1 24", "best 0 11 1 24", "kind 0 11 1 120", "kind 0 11 1 12",
        "cellar 1 12", "cellar 1 60", "field 0 3 1 24", "field 0 3 1 24", "priceFor 0 3 0 400", "priceFor 0 3 0 9999",
        "taxMonth", "bank", "feed 0 2147483647 1 4", "wipe", "market", "TEXT", "sheet 0 3 BITS 0 40",
        "sheet 0 3 BITS 0 40", "write 0 3 0 39 LONG", "write 0 3 0 10 0 120", "copy 0 3 0 10 0 3 0 10 0 10", "copy 0 3 0 4 0 3 0 4 0 4", "lays 0 3",
        "book 0 3 0 30", "book 0 3 0 120", "read 0 3 0 3", "READ", "KEEP", "undo", "count 0 4", "status -1 6"};

    private static final Map<String, Method> METHODS = new HashMap<>();

    private final Random random;
    private final SproutCoins x = new SproutCoins();
    private final PlainModel model = new PlainModel();
    private final List<String> asked = new ArrayList<>();
    private final int run;
    private long latest;

    private RandomRunsTest(int run) {
        this.run = run;
        random = new Random(run);
    }

    public static void main(String[] args) throws Exception {
        for (Method m : SproutCoins.class.getDeclaredMethods()) {
            if (java.lang.reflect.Modifier.isPublic(m.getModifiers())) {
                METHODS.put(m.getName(), m);
            }
        }
        for (int run = 0; run < RUNS; run++) {
            if (!new RandomRunsTest(run).goes()) {
                break;
            }
        }
        Check.finish("RandomRunsTest");
    }

    private boolean goes() throws Exception {
        boolean fine = begins();
        while (fine && asked.size() < CALLS) {
            String[] parts = CALLS_AND_RANGES[random.nextInt(CALLS_AND_RANGES.length)].split(" ");
            if (random.nextInt(25) == 0) {
                fine = call("undo") && call("months", 1 + random.nextInt(12));
            } else if (parts[0].equals("TEXT")) {
                fine = text();
            } else if (parts[0].equals("READ")) {
                fine = read();
            } else if (parts[0].equals("KEEP")) {
                // Seldom, so that undo() finds the young coins for long.
                fine = call(new String[] {"image", "tear", "bank", "bank", "bank", "bank", "bank"}[random.nextInt(7)]);
            } else {
                fine = call(parts[0], arguments(parts));
            }
        }
        return fine;
    }

    /** Some runs begin near the last month; most have a kept market of young coins to come back to by undo(). */
    private boolean begins() throws Exception {
        boolean fine = true;
        for (int i = 0; run % 8 == 7 && fine && i < 82; i++) {
            fine = call("months", 120);
        }
        for (int i = random.nextInt(160); run % 8 == 7 && fine && i > 0; i -= 40) {
            fine = call("months", Math.min(i, 40));
        }
        int coins = run % 4 == 0 ? 0 : 4 + random.nextInt(9);
        for (int c = 0; fine && c < coins; c++) {
            fine = call("coin", random.nextInt(6), random.nextInt(run % 3 + 2), 1 + random.nextInt(99));
            fine = fine && call("set", c, 3, Math.max(0, random.nextInt(7) - 4));
        }
        return fine && (coins == 0 || call("image"));
    }

    private long[] arguments(String[] parts) {
        List<Long> drawn = new ArrayList<>();
        for (int i = 1; i < parts.length; i++) {
            if (parts[i].equals("BITS")) {
                long[] bits = {8, 16, 64, 8, 16, 64, 0, 32};
                drawn.add(bits[random.nextInt(bits.length)]);
            } else if (parts[i].equals("LONG")) {
                drawn.add(random.nextLong() >> random.nextInt(64));
            } else {
                drawn.add(drawn(Long.parseLong(parts[i]), Long.parseLong(parts[i + 1])));
                i++;
            }
        }
        return drawn.stream().mapToLong(Long::longValue).toArray();
    }

    private long drawn(long least, long most) {
        switch (random.nextInt(60)) {
            case 0:
                return least - 1;
            case 1:
                return Math.min(most + 1, Integer.MAX_VALUE);
            case 2:
                return random.nextBoolean() ? least : most;
            case 3:
                return random.nextInt(4) > 0 ? least : random.nextInt();
            default:
                return least + (long) (random.nextDouble() * (most - least + 1));
        }
    }

    /** Whether both answer the same. */
    private boolean call(String name, long... a) throws Exception {
        if (asked.size() == CALLS) {
            // What later calls answer is free.
            return true;
        }
        Method m = METHODS.get(name);
        Object[] boxed = new Object[a.length];
        for (int i = 0; i < a.length; i++) {
            boxed[i] = m.getParameterTypes()[i] == long.class ? (Object) a[i] : (Object) (int) a[i];
        }
        long got = ((Number) m.invoke(x, boxed)).longValue();
        long due = model.ask(name, a);
        latest = got;
        asked.add(name + java.util.Arrays.toString(a));
        Check.due("run " + run + ", call " + asked.size() + ", " + asked.get(asked.size() - 1), got, due);
        if (got != due) {
            System.out.println(asked);
        }
        return got == due;
    }

    /** A sheet that is a true book of purses, or all but, and the reader on it. */
    private boolean read() throws Exception {
        int s = random.nextInt(4);
        int owner = random.nextInt(4);
        int n = random.nextInt(8);
        boolean fine = call("sheet", s, random.nextBoolean() ? 16 : 64, n);
        for (int i = 0; fine && i < n; i++) {
            fine = call("purseOn", owner, i) && call("write", s, i, latest + random.nextInt(20) / 19);
        }
        return fine && call("read", s, owner);
    }

    private boolean text() throws Exception {
        StringBuilder text = new StringBuilder();
        int items = 1 + random.nextInt(4);
        for (int i = 0; i < items; i++) {
            text.append(i == 0 ? "" : random.nextInt(5) == 0 ? " ; " : ";").append(item());
        }
        if (random.nextInt(3) == 0) {
            spoil(text);
        }
        boolean fine = call("wipe");
        for (int i = 0; fine && i < text.length(); i += 4) {
            String part = text.substring(i, Math.min(text.length(), i + 4));
            int bytes = 0;
            for (char c : part.toCharArray()) {
                bytes = bytes << 8 | c;
            }
            fine = call("feed", bytes, part.length());
        }
        return fine && call("market");
    }

    private String item() {
        String[] kinds = {"coin", "blue", "red", "seed", "boiled", "sky"};
        String[] ends = {"", "", " rotten", " planted"};
        switch (random.nextInt(5)) {
            case 0:
                return "soil " + drawn(0, 3) + " " + drawn(0, 9);
            case 1:
                return "price " + drawn(0, 11) + " " + drawn(0, 99);
            case 2:
                return "loan " + drawn(0, 3) + " to " + drawn(0, 3) + " " + drawn(1, 300) + " in " + drawn(1, 120);
            default:
                return kinds[random.nextInt(6)] + " of " + drawn(0, 3) + " size " + drawn(0, 99) + ends[random.nextInt(4)];
        }
    }

    private void spoil(StringBuilder text) {
        String signs = " ;;0129azof\u00e9-A\t";
        int at = random.nextInt(text.length());
        switch (random.nextInt(3)) {
            case 0:
                text.setLength(at);
                break;
            case 1:
                text.deleteCharAt(at);
                break;
            default:
                text.insert(at, signs.charAt(random.nextInt(signs.length())));
        }
    }
}
