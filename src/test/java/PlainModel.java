import java.nio.charset.StandardCharsets;
import java.util.ArrayList;
import java.util.List;
import java.util.regex.Matcher;
import java.util.regex.Pattern;

/**
 * The document once more, in the plainest way and without any of the class's short cuts: every set is tried for a
 * payment, every question goes through whole months with their payments. RandomRunsTest holds the class against it.
 */
final class PlainModel {
    private static final String[] NAMES = {"coin", "blue", "red", "seed", "boiled", "sky"};
    private static final Pattern TOKEN = Pattern.compile("[a-z]+|[0-9]+|;");

    static final class Coin {
        int kind;
        int owner;
        int size;
        int state;

        Coin(int kind, int owner, int size, int state) {
            this.kind = kind;
            this.owner = owner;
            this.size = size;
            this.state = state;
        }
    }

    static final class Loan {
        int from;
        int to;
        int v;
        int due;
        boolean paid;
    }

    static final class World {
        int month;
        int lacked;
        int[] soil = {5, 5, 5, 5};
        int[] price = {10, 10, 10, 10, 10, 10, 10, 10, 10, 10, 10, 10};
        List<Coin> coins = new ArrayList<>();
        List<Loan> loans = new ArrayList<>();

        World twin() {
            World w = new World();
            w.month = month;
            w.lacked = lacked;
            w.soil = soil.clone();
            w.price = price.clone();
            for (Coin c : coins) {
                w.coins.add(new Coin(c.kind, c.owner, c.size, c.state));
            }
            for (Loan l : loans) {
                w.lend(l.from, l.to, l.v, l.due, l.paid);
            }
            return w;
        }

        World ahead(int n) {
            World w = twin();
            for (int i = 0; i < n; i++) {
                w.oneMonth();
            }
            return w;
        }

        void lend(int from, int to, int v, int due, boolean paid) {
            Loan l = new Loan();
            l.from = from;
            l.to = to;
            l.v = v;
            l.due = due;
            l.paid = paid;
            loans.add(l);
        }

        int season() {
            return month % 12;
        }

        boolean springs() {
            return season() == 2 || season() == 3 || season() == 4 || season() == 5;
        }

        int shrinks(int kind) {
            int s = season();
            switch (NAMES[kind]) {
                case "coin":
                    return s == 2 || s == 3 || s == 4 ? 3 : 1;
                case "blue":
                    return shrinks(0) / 3;
                case "red":
                    return shrinks(0) * 2;
                case "seed":
                    return shrinks(0);
                case "boiled":
                    return shrinks(2) + 1;
                default:
                    return s == 9 || s == 10 || s == 11 ? 0 : shrinks(1);
            }
        }

        int yields(int kind, int owner) {
            switch (NAMES[kind]) {
                case "coin":
                    return soil[owner] + 5;
                case "seed":
                    return yields(0, owner) + 3;
                case "red":
                    return yields(0, owner);
                case "blue":
                    return Math.max(0, yields(0, owner) - 4);
                case "boiled":
                    return 0;
                default:
                    return yields(1, owner);
            }
        }

        int worth(Coin c) {
            return c.state == 0 ? c.size * price[season()] / 10 : 0;
        }

        int purse(int owner) {
            return coins.stream().filter(c -> c.owner == owner).mapToInt(this::worth).sum();
        }

        int many(int state) {
            return (int) coins.stream().filter(c -> c.state == state).count();
        }

        int sound(int owner) {
            int set = 0;
            for (int i = 0; i < coins.size(); i++) {
                if (coins.get(i).owner == owner && coins.get(i).state == 0) {
                    set += 1 << i;
                }
            }
            return set;
        }

        int worthOf(int set) {
            int sum = 0;
            for (int i = 0; i < coins.size(); i++) {
                if ((set & 1 << i) != 0) {
                    sum += worth(coins.get(i));
                }
            }
            return sum;
        }

        int which(int from, int v) {
            int all = sound(from);
            int best = -1;
            for (int set = 0; set <= all; set++) {
                if ((set & ~all) == 0 && worthOf(set) >= v && (best < 0 || worthOf(set) < worthOf(best))) {
                    best = set;
                }
            }
            return best < 0 ? all : best;
        }

        int pay(int from, int to, int v) {
            int set = which(from, v);
            if (worthOf(set) < v) {
                lacked += v - worthOf(set);
            }
            for (int i = 0; i < coins.size(); i++) {
                if ((set & 1 << i) != 0) {
                    coins.get(i).owner = to;
                }
            }
            return set;
        }

        int tax() {
            int many = 0;
            for (int owner = 0; owner < 4; owner++) {
                Coin best = null;
                for (Coin c : coins) {
                    if (c.owner == owner && c.state == 0 && (best == null || worth(c) > worth(best))) {
                        best = c;
                    }
                }
                if (best != null) {
                    best.kind = 4;
                    many++;
                }
            }
            return many;
        }

        void oneMonth() {
            boolean[] wasRotten = new boolean[coins.size() + 2];
            for (int i = 0; i < coins.size(); i++) {
                wasRotten[i + 1] = coins.get(i).state == 1;
            }
            for (Coin c : coins) {
                if (c.state == 0) {
                    c.size = Math.max(0, c.size - shrinks(c.kind));
                    if (c.size == 0) {
                        c.state = 1;
                    }
                }
            }
            for (int i = 0; i < coins.size(); i++) {
                Coin c = coins.get(i);
                boolean turns = c.kind != 1 && c.kind != 5;
                if (c.state == 0 && turns && (wasRotten[i] || wasRotten[i + 2])) {
                    c.state = 1;
                }
            }
            if (season() == 8) {
                for (Coin c : coins) {
                    if (c.state == 2) {
                        c.size = Math.min(99, c.size * yields(c.kind, c.owner));
                        c.state = c.size == 0 ? 1 : 0;
                    }
                }
            }
            month++;
            for (Loan l : loans) {
                if (l.due == month && !l.paid) {
                    pay(l.from, l.to, l.v);
                    l.paid = true;
                }
            }
        }
    }

    private World w = new World();
    private World kept = null;
    private String tape = "";
    private final long[][] sheets = new long[4][];
    private final int[] bits = new int[4];
    private final int[] told = new int[7];

    /** What is due for a call; a finding is counted. */
    long ask(String name, long[] a) {
        Long answer = answer(name, a);
        if (answer == null) {
            throw new IllegalStateException("no such call: " + name);
        }
        return answer;
    }

    private Long find(int f) {
        told[Check.BEYOND - f]++;
        return (long) f;
    }

    private static boolean in(long v, int least, int most) {
        return v >= least && v <= most;
    }

    private boolean coin(long c) {
        return in(c, 0, w.coins.size() - 1);
    }

    private boolean late(long n) {
        return w.month + n > 9999;
    }

    private Long answer(String name, long[] a) {
        Long answer = aboutCoins(name, a);
        if (answer == null) {
            answer = aboutPayments(name, a);
        }
        if (answer == null) {
            answer = aboutOn(name, a);
        }
        if (answer == null) {
            answer = aboutWhatToDo(name, a);
        }
        if (answer == null) {
            answer = aboutText(name, a);
        }
        if (answer == null) {
            answer = aboutSheets(name, a);
        }
        return answer == null ? aboutImages(name, a) : answer;
    }

    private Long aboutCoins(String name, long[] a) {
        switch (name) {
            case "soil": {
                if (!in(a[0], 0, 3) || !in(a[1], 0, 9)) {
                    return find(Check.BEYOND);
                }
                long was = w.soil[(int) a[0]];
                w.soil[(int) a[0]] = (int) a[1];
                return was;
            }
            case "price": {
                if (!in(a[0], 0, 11) || !in(a[1], 0, 99)) {
                    return find(Check.BEYOND);
                }
                long was = w.price[(int) a[0]];
                w.price[(int) a[0]] = (int) a[1];
                return was;
            }
            case "coin":
                if (!in(a[0], 0, 5) || !in(a[1], 0, 3) || !in(a[2], 0, 99)) {
                    return find(Check.BEYOND);
                }
                if (w.coins.size() == 12) {
                    return find(Check.FULL);
                }
                w.coins.add(new Coin((int) a[0], (int) a[1], (int) a[2], 0));
                return w.coins.size() - 1L;
            case "of":
                if (!coin(a[0]) || !in(a[1], 0, 7)) {
                    return find(Check.BEYOND);
                }
                return of(w.coins.get((int) a[0]), (int) a[1]);
            case "set":
                return set(a);
            case "turn": {
                if (!coin(a[0]) || !in(a[1], 0, 5)) {
                    return find(Check.BEYOND);
                }
                long was = w.coins.get((int) a[0]).kind;
                w.coins.get((int) a[0]).kind = (int) a[1];
                return was;
            }
            case "as": {
                if (!coin(a[0]) || !in(a[1], 0, 5)) {
                    return find(Check.BEYOND);
                }
                Coin c = w.coins.get((int) a[0]);
                int[] above = {-1, 0, 0, 0, 2, 1};
                for (int k = c.kind; k >= 0; k = above[k]) {
                    if (k == a[1]) {
                        return (long) c.size;
                    }
                }
                return find(Check.KIND);
            }
            case "swap": {
                if (!coin(a[0]) || !coin(a[1])) {
                    return find(Check.BEYOND);
                }
                java.util.Collections.swap(w.coins, (int) a[0], (int) a[1]);
                return 1L;
            }
            case "plant": {
                if (!coin(a[0])) {
                    return find(Check.BEYOND);
                }
                Coin c = w.coins.get((int) a[0]);
                if (c.state != 0 || !w.springs()) {
                    return find(Check.STATE);
                }
                c.state = 2;
                return (long) c.size;
            }
            case "purse":
                return in(a[0], 0, 3) ? Long.valueOf(w.purse((int) a[0])) : find(Check.BEYOND);
            default:
                return null;
        }
    }

    private long of(Coin c, int what) {
        int[] all = {c.kind, c.owner, c.size, c.state, w.worth(c), w.shrinks(c.kind), w.yields(c.kind, c.owner),
            c.kind == 1 || c.kind == 5 ? 0 : 1};
        return all[what];
    }

    private Long set(long[] a) {
        int[] most = {-1, 3, 99, 2};
        if (!coin(a[0]) || !in(a[1], 1, 3) || !in(a[2], 0, most[(int) a[1]])) {
            return find(Check.BEYOND);
        }
        Coin c = w.coins.get((int) a[0]);
        long was = of(c, (int) a[1]);
        if (a[1] == 1) {
            c.owner = (int) a[2];
        } else if (a[1] == 2) {
            c.size = (int) a[2];
        } else {
            c.state = (int) a[2];
        }
        return was;
    }

    private Long aboutPayments(String name, long[] a) {
        switch (name) {
            case "pay":
                if (!in(a[0], 0, 3) || !in(a[1], 0, 3) || a[0] == a[1] || !in(a[2], 1, 9999)) {
                    return find(Check.BEYOND);
                }
                return (long) w.pay((int) a[0], (int) a[1], (int) a[2]);
            case "which":
            case "over": {
                if (!in(a[0], 0, 3) || !in(a[1], 1, 9999)) {
                    return find(Check.BEYOND);
                }
                int set = w.which((int) a[0], (int) a[1]);
                return name.equals("which") ? set : w.worthOf(set) - a[1];
            }
            case "loan":
                if (!in(a[0], 0, 3) || !in(a[1], 0, 3) || a[0] == a[1] || !in(a[2], 1, 9999) || !in(a[3], 1, 120)) {
                    return find(Check.BEYOND);
                }
                if (late(a[3])) {
                    return find(Check.STATE);
                }
                if (w.loans.size() == 8) {
                    return find(Check.FULL);
                }
                w.lend((int) a[0], (int) a[1], (int) a[2], w.month + (int) a[3], false);
                return w.loans.size() - 1L;
            case "loanOf": {
                if (!in(a[0], 0, w.loans.size() - 1) || !in(a[1], 0, 4)) {
                    return find(Check.BEYOND);
                }
                Loan l = w.loans.get((int) a[0]);
                return (long) new int[] {l.from, l.to, l.v, l.due, l.paid ? 1 : 0}[(int) a[1]];
            }
            case "tax":
                return (long) w.tax();
            case "months": {
                if (!in(a[0], 1, 120)) {
                    return find(Check.BEYOND);
                }
                if (late(a[0])) {
                    return find(Check.STATE);
                }
                World then = w.ahead((int) a[0]);
                long rotten = 0;
                for (int i = 0; i < w.coins.size(); i++) {
                    if (w.coins.get(i).state != 1 && then.coins.get(i).state == 1) {
                        rotten++;
                    }
                }
                w = then;
                return rotten;
            }
            case "now":
                if (!in(a[0], 0, 5)) {
                    return find(Check.BEYOND);
                }
                return (long) new int[] {w.month, w.season(), w.lacked, w.many(0), w.many(1), w.many(2)}[(int) a[0]];
            default:
                return null;
        }
    }

    private Long aboutOn(String name, long[] a) {
        switch (name) {
            case "on":
                if (!coin(a[0]) || !in(a[1], 0, 120)) {
                    return find(Check.BEYOND);
                }
                return late(a[1]) ? find(Check.STATE) : Long.valueOf(w.ahead((int) a[1]).coins.get((int) a[0]).size);
            case "purseOn":
                if (!in(a[0], 0, 3) || !in(a[1], 0, 120)) {
                    return find(Check.BEYOND);
                }
                return late(a[1]) ? find(Check.STATE) : Long.valueOf(w.ahead((int) a[1]).purse((int) a[0]));
            case "rich": {
                if (!in(a[0], 0, 120)) {
                    return find(Check.BEYOND);
                }
                if (late(a[0])) {
                    return find(Check.STATE);
                }
                World then = w.ahead((int) a[0]);
                int best = 3;
                for (int owner = 2; owner >= 0; owner--) {
                    best = then.purse(owner) >= then.purse(best) ? owner : best;
                }
                return (long) best;
            }
            case "rots":
                if (!coin(a[0])) {
                    return find(Check.BEYOND);
                }
                if (w.month > 9879) {
                    return find(Check.STATE);
                }
                for (int n = 0; n <= 120; n++) {
                    if (w.ahead(n).coins.get((int) a[0]).state == 1) {
                        return (long) n;
                    }
                }
                return find(Check.NONE);
            case "when": {
                if (!coin(a[0])) {
                    return find(Check.BEYOND);
                }
                if (w.month > 9975) {
                    return find(Check.STATE);
                }
                long best = 24;
                for (int n = 23; n >= 0; n--) {
                    best = worthAhead(w, a[0], n) >= worthAhead(w, a[0], (int) best) ? n : best;
                }
                return best;
            }
            case "lacks":
                if (!in(a[0], 0, 120)) {
                    return find(Check.BEYOND);
                }
                return late(a[0]) ? find(Check.STATE) : Long.valueOf(w.ahead((int) a[0]).lacked - w.lacked);
            default:
                return null;
        }
    }

    private static int worthAhead(World from, long coin, int n) {
        World then = from.ahead(n);
        return then.worth(then.coins.get((int) coin));
    }

    private static int firstGreatest(int[] values) {
        int best = 0;
        for (int i = 1; i < values.length; i++) {
            best = values[i] > values[best] ? i : best;
        }
        return best;
    }

    private Long aboutWhatToDo(String name, long[] a) {
        switch (name) {
            case "best": {
                if (!coin(a[0]) || !in(a[1], 1, 24)) {
                    return find(Check.BEYOND);
                }
                if (w.coins.get((int) a[0]).state != 0 || late(a[1])) {
                    return find(Check.STATE);
                }
                World planted = w.twin();
                planted.coins.get((int) a[0]).state = 2;
                int[] values = {worthAhead(w, a[0], (int) a[1]), worthAhead(w, a[0], 0),
                    w.springs() ? worthAhead(planted, a[0], (int) a[1]) : -1};
                return (long) firstGreatest(values);
            }
            case "kind": {
                if (!coin(a[0]) || !in(a[1], 1, 120)) {
                    return find(Check.BEYOND);
                }
                if (late(a[1])) {
                    return find(Check.STATE);
                }
                int[] values = new int[6];
                for (int k = 0; k < 6; k++) {
                    World other = w.twin();
                    other.coins.get((int) a[0]).kind = k;
                    values[k] = worthAhead(other, a[0], (int) a[1]);
                }
                return (long) firstGreatest(values);
            }
            case "cellar":
                return cellar((int) a[0]);
            case "field":
                return field((int) a[0], (int) a[1]);
            case "priceFor":
                if (!in(a[0], 0, 3) || !in(a[1], 0, 9999)) {
                    return find(Check.BEYOND);
                }
                for (int p = 0; p <= 99; p++) {
                    World other = w.twin();
                    other.price[other.season()] = p;
                    if (other.purse((int) a[0]) >= a[1]) {
                        return (long) p;
                    }
                }
                return find(Check.NONE);
            case "taxMonth": {
                if (w.month > 9987) {
                    return find(Check.STATE);
                }
                int[] values = new int[12];
                for (int n = 0; n < 12; n++) {
                    World other = w.ahead(n);
                    other.tax();
                    other = other.ahead(12 - n);
                    values[n] = other.purse(0) + other.purse(1) + other.purse(2) + other.purse(3);
                }
                return (long) firstGreatest(values);
            }
            case "bank": {
                int[] values = new int[4];
                for (Coin c : w.coins) {
                    values[c.owner] += c.state == 0 && (c.kind == 1 || c.kind == 5) ? 1 : 0;
                }
                int best = firstGreatest(values);
                return values[best] == 0 ? find(Check.NONE) : Long.valueOf(best);
            }
            default:
                return null;
        }
    }

    private Long cellar(int n) {
        if (!in(n, 1, 60)) {
            return find(Check.BEYOND);
        }
        if (late(n)) {
            return find(Check.STATE);
        }
        int without = w.coins.size() - w.ahead(n).many(1);
        int most = without;
        long choice = -1;
        for (int i = 0; i < w.coins.size(); i++) {
            for (int j = i + 1; j < w.coins.size(); j++) {
                World other = w.twin();
                java.util.Collections.swap(other.coins, i, j);
                int left = w.coins.size() - other.ahead(n).many(1);
                if (left > most) {
                    most = left;
                    choice = 100 * i + j;
                }
            }
        }
        return choice < 0 ? find(Check.NONE) : Long.valueOf(choice);
    }

    private Long field(int owner, int n) {
        if (!in(owner, 0, 3) || !in(n, 1, 24)) {
            return find(Check.BEYOND);
        }
        if (!w.springs() || late(n)) {
            return find(Check.STATE);
        }
        int all = w.sound(owner);
        if (Integer.bitCount(all) > 6) {
            return find(Check.SIZE);
        }
        int most = -1;
        int choice = -1;
        for (int set = 0; set <= all; set++) {
            if ((set & all) == set) {
                World other = w.twin();
                for (int i = 0; i < 12; i++) {
                    if ((set & 1 << i) != 0) {
                        other.coins.get(i).state = 2;
                    }
                }
                int purse = other.ahead(n).purse(owner);
                if (purse > most) {
                    most = purse;
                    choice = set;
                }
            }
        }
        return (long) choice;
    }

    private Long aboutText(String name, long[] a) {
        switch (name) {
            case "feed": {
                if (!in(a[1], 1, 4)) {
                    return find(Check.BEYOND);
                }
                if (tape.length() + a[1] > 120) {
                    return find(Check.FULL);
                }
                byte[] four = java.nio.ByteBuffer.allocate(4).putInt((int) a[0]).array();
                tape += new String(four, StandardCharsets.ISO_8859_1).substring(4 - (int) a[1]);
                return (long) tape.length();
            }
            case "wipe": {
                long had = tape.length();
                tape = "";
                return had;
            }
            case "market": {
                World other = w.twin();
                long items = new Text(tape, other).items();
                if (items >= 0) {
                    w = other;
                }
                tape = "";
                return items;
            }
            default:
                return null;
        }
    }

    /** The text, cut into tokens first; a byte that begins none is a token that can stand nowhere. */
    private static final class Text {
        private final List<String> tokens = new ArrayList<>();
        private final List<Integer> places = new ArrayList<>();
        private final World to;
        private int next = 0;
        private int value;

        Text(String tape, World to) {
            this.to = to;
            Matcher m = TOKEN.matcher(tape);
            for (int i = 0; i < tape.length();) {
                if (tape.charAt(i) == ' ') {
                    i++;
                } else {
                    boolean is = m.find(i) && m.start() == i;
                    tokens.add(is ? m.group() : "?");
                    places.add(i);
                    i = is ? m.end() : i + 1;
                }
            }
            tokens.add("");
            places.add(tape.length());
        }

        long items() {
            for (int n = 1;; n++) {
                if (!item()) {
                    return -1 - places.get(next);
                }
                if (tokens.get(next).isEmpty()) {
                    return n;
                }
                if (!word(";")) {
                    return -1 - places.get(next);
                }
            }
        }

        private boolean word(String s) {
            boolean is = tokens.get(next).equals(s);
            next += is ? 1 : 0;
            return is;
        }

        private boolean number(int least, int most, int but) {
            String t = tokens.get(next);
            if (!t.matches("[0-9]+")) {
                return false;
            }
            java.math.BigInteger big = new java.math.BigInteger(t);
            if (big.bitLength() > 20 || !in(big.intValue(), least, most) || big.intValue() == but) {
                return false;
            }
            value = big.intValue();
            next++;
            return true;
        }

        private boolean item() {
            int kind = java.util.Arrays.asList(NAMES).indexOf(tokens.get(next));
            if (kind >= 0 && to.coins.size() < 12) {
                next++;
                Coin c = new Coin(kind, 0, 0, 0);
                if (!word("of") || !number(0, 3, -1)) {
                    return false;
                }
                c.owner = value;
                if (!word("size") || !number(0, 99, -1)) {
                    return false;
                }
                c.size = value;
                c.state = word("rotten") ? 1 : word("planted") ? 2 : 0;
                return to.coins.add(c);
            }
            if (word("soil")) {
                return pair(to.soil, 3, 9);
            }
            if (word("price")) {
                return pair(to.price, 11, 99);
            }
            return to.loans.size() < 8 && word("loan") && loan();
        }

        private boolean pair(int[] row, int mostPlace, int most) {
            if (!number(0, mostPlace, -1)) {
                return false;
            }
            int place = value;
            if (!number(0, most, -1)) {
                return false;
            }
            row[place] = value;
            return true;
        }

        private boolean loan() {
            if (!number(0, 3, -1)) {
                return false;
            }
            int from = value;
            if (!word("to") || !number(0, 3, from)) {
                return false;
            }
            int other = value;
            if (!number(1, 9999, -1)) {
                return false;
            }
            int v = value;
            if (!word("in") || !number(1, 120, -1)) {
                return false;
            }
            to.lend(from, other, v, to.month + value, false);
            return true;
        }
    }

    private long cut(int s, long v) {
        return bits[s] == 8 ? (byte) v : bits[s] == 16 ? (short) v : v;
    }

    private Long aboutSheets(String name, long[] a) {
        if (!List.of("sheet", "write", "copy", "lays", "book", "read").contains(name)) {
            return null;
        }
        if (!in(a[0], 0, 3)) {
            return find(Check.BEYOND);
        }
        int s = (int) a[0];
        if (name.equals("sheet")) {
            return sheet(s, (int) a[1], (int) a[2]);
        }
        if (name.equals("copy")) {
            return copy(s, a);
        }
        long[] row = sheets[s];
        if (row == null) {
            return find(Check.MISSING);
        }
        switch (name) {
            case "write": {
                if (!in(a[1], 0, row.length - 1)) {
                    return find(Check.BEYOND);
                }
                long was = row[(int) a[1]];
                row[(int) a[1]] = cut(s, a[2]);
                return was;
            }
            case "lays": {
                long came = 0;
                for (int i = 0; i < Math.min(12, row.length); i++) {
                    if (in(row[i], 0, 99)) {
                        w.price[i] = (int) row[i];
                        came++;
                    }
                }
                return came;
            }
            case "book": {
                if (!in(a[1], 0, 120)) {
                    return find(Check.BEYOND);
                }
                if (late(a[1])) {
                    return find(Check.STATE);
                }
                int i = 0;
                for (; i < row.length && i < w.coins.size(); i++) {
                    row[i] = cut(s, worthAhead(w, i, (int) a[1]));
                }
                return (long) i;
            }
            default: {
                if (!in(a[1], 0, 3)) {
                    return find(Check.BEYOND);
                }
                if (w.month > 9959) {
                    return find(Check.STATE);
                }
                for (int i = 0; i < row.length; i++) {
                    if (row[i] != w.ahead(i).purse((int) a[1])) {
                        return 1L + i;
                    }
                }
                return 0L;
            }
        }
    }

    private Long sheet(int s, int newBits, int n) {
        if (newBits != 0 && newBits != 8 && newBits != 16 && newBits != 64) {
            return find(Check.BEYOND);
        }
        if (n < 0) {
            return find(Check.SIZE);
        }
        if (n > 40) {
            return find(Check.BEYOND);
        }
        bits[s] = newBits;
        sheets[s] = newBits == 0 ? null : new long[n];
        return newBits == 0 ? 0L : n;
    }

    private Long copy(int s, long[] a) {
        if (!in(a[2], 0, 3)) {
            return find(Check.BEYOND);
        }
        long[] from = sheets[s];
        long[] to = sheets[(int) a[2]];
        if (from == null || to == null) {
            return find(Check.MISSING);
        }
        if (bits[s] != bits[(int) a[2]]) {
            return find(Check.KIND);
        }
        if (a[1] < 0 || a[3] < 0 || a[4] < 0 || a[1] + a[4] > from.length || a[3] + a[4] > to.length) {
            return find(Check.BEYOND);
        }
        long[] were = from.clone();
        for (int i = 0; i < a[4]; i++) {
            to[(int) a[3] + i] = were[(int) a[1] + i];
        }
        return a[4];
    }

    private Long aboutImages(String name, long[] a) {
        switch (name) {
            case "image":
                kept = w.twin();
                return 1L;
            case "undo":
                if (kept == null) {
                    return find(Check.NONE);
                }
                w = kept.twin();
                return (long) w.coins.size();
            case "tear": {
                long was = kept == null ? 0 : 1;
                kept = null;
                return was;
            }
            case "count":
                if (!in(a[0], 0, 4)) {
                    return find(Check.BEYOND);
                }
                return (long) new int[] {w.coins.size(), w.loans.size(), (int) w.loans.stream().filter(l -> !l.paid).count(),
                    tape.length(), w.coins.stream().mapToInt(c -> c.size).sum()}[(int) a[0]];
            case "status":
                if (!in(a[0], -1, 6)) {
                    return find(Check.BEYOND);
                }
                return (long) (a[0] < 0 ? java.util.Arrays.stream(told).sum() : told[(int) a[0]]);
            default:
                return null;
        }
    }
}
