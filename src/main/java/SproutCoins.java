/** A market whose money is potatoes: coins that shrink, sprout, rot, are planted and come back in autumn. */
public final class SproutCoins {
    private static final int BEYOND = -1000000001;
    private static final int FULL = -1000000002;
    private static final int KIND = -1000000003;
    private static final int NONE = -1000000004;
    private static final int STATE = -1000000005;
    private static final int MISSING = -1000000006;
    private static final int SIZE = -1000000007;
    private static final int FINDINGS = 7;

    private static final int COIN = 0;
    private static final int BLUE = 1;
    private static final int RED = 2;
    private static final int SEED = 3;
    private static final int BOILED = 4;
    private static final int SKY = 5;
    private static final int KINDS = 6;

    private static final int SOUND = 0;
    private static final int ROTTEN = 1;
    private static final int PLANTED = 2;

    private static final int OWNERS = 4;
    private static final int SEASONS = 12;
    private static final int COINS = 12;
    private static final int LOANS = 8;
    private static final int SHEETS = 4;
    private static final int NUMBERS = 40;
    private static final int TAPE = 120;

    private static final int MOST_SOIL = 9;
    private static final int MOST_PRICE = 99;
    private static final int MOST_SIZE = 99;
    private static final int MOST_OWED = 9999;
    private static final int MOST_MONTHS = 120;
    private static final int TWO_YEARS = 24;
    private static final int FIVE_YEARS = 60;
    private static final int LAST_MONTH = 9999;
    private static final int MOST_PLANTS = 6;

    private final Market here;
    private final Market kept;
    // Two markets to try things in, made once: a call may then ask as often as it likes and makes nothing.
    private final Market trial;
    private final Market branch;
    private final Tape tape;
    private final Sheet[] sheets;
    private final int[] told;
    private boolean isKept;

    public SproutCoins() {
        here = new Market();
        kept = new Market();
        trial = new Market();
        branch = new Market();
        tape = new Tape();
        sheets = new Sheet[SHEETS];
        for (int s = 0; s < SHEETS; s++) {
            sheets[s] = new Sheet();
        }
        told = new int[FINDINGS];
        isKept = false;
    }

    // ---- the market, coins

    public int soil(int owner, int v) {
        if (!isOwner(owner) || !isWithin(v, 0, MOST_SOIL)) {
            return finding(BEYOND);
        }
        int was = here.soilOf[owner];
        here.soilOf[owner] = v;
        return was;
    }

    public int price(int season, int v) {
        if (!isWithin(season, 0, SEASONS - 1) || !isWithin(v, 0, MOST_PRICE)) {
            return finding(BEYOND);
        }
        int was = here.priceOf[season];
        here.priceOf[season] = v;
        return was;
    }

    public int coin(int kind, int owner, int size) {
        if (!isKind(kind) || !isOwner(owner) || !isWithin(size, 0, MOST_SIZE)) {
            return finding(BEYOND);
        }
        if (here.coins >= COINS) {
            return finding(FULL);
        }
        return here.addCoin(kind, owner, size, SOUND);
    }

    public int of(int coin, int what) {
        if (!isCoin(coin)) {
            return finding(BEYOND);
        }
        switch (what) {
            case 0:
                return here.kindOf[coin];
            case 1:
                return here.ownerOf[coin];
            case 2:
                return here.sizeOf[coin];
            case 3:
                return here.stateOf[coin];
            case 4:
                return here.worthOf(coin);
            case 5:
                return Market.shrinks(here.kindOf[coin], here.season());
            case 6:
                return here.yieldOf(coin);
            case 7:
                return Market.turns(here.kindOf[coin]) ? 1 : 0;
            default:
                return finding(BEYOND);
        }
    }

    public int set(int coin, int what, int v) {
        if (!isCoin(coin)) {
            return finding(BEYOND);
        }
        int[] row;
        int most;
        switch (what) {
            case 1:
                row = here.ownerOf;
                most = OWNERS - 1;
                break;
            case 2:
                row = here.sizeOf;
                most = MOST_SIZE;
                break;
            case 3:
                row = here.stateOf;
                most = PLANTED;
                break;
            default:
                return finding(BEYOND);
        }
        if (!isWithin(v, 0, most)) {
            return finding(BEYOND);
        }
        int was = row[coin];
        row[coin] = v;
        return was;
    }

    public int turn(int coin, int kind) {
        if (!isCoin(coin) || !isKind(kind)) {
            return finding(BEYOND);
        }
        int was = here.kindOf[coin];
        here.kindOf[coin] = kind;
        return was;
    }

    public int as(int coin, int kind) {
        if (!isCoin(coin) || !isKind(kind)) {
            return finding(BEYOND);
        }
        if (!Market.isUnder(here.kindOf[coin], kind)) {
            return finding(KIND);
        }
        return here.sizeOf[coin];
    }

    public int swap(int one, int other) {
        if (!isCoin(one) || !isCoin(other)) {
            return finding(BEYOND);
        }
        here.exchange(one, other);
        return 1;
    }

    public int plant(int coin) {
        if (!isCoin(coin)) {
            return finding(BEYOND);
        }
        if (here.stateOf[coin] != SOUND || !here.isPlantingTime()) {
            return finding(STATE);
        }
        here.stateOf[coin] = PLANTED;
        return here.sizeOf[coin];
    }

    public int purse(int owner) {
        return isOwner(owner) ? here.purseOf(owner) : finding(BEYOND);
    }

    // ---- payments, loans

    public int pay(int from, int to, int v) {
        if (!areTwoOwners(from, to) || !isOwed(v)) {
            return finding(BEYOND);
        }
        return here.handOver(from, to, v);
    }

    public int which(int from, int v) {
        if (!isOwner(from) || !isOwed(v)) {
            return finding(BEYOND);
        }
        return here.coinsFor(from, v);
    }

    public int over(int from, int v) {
        if (!isOwner(from) || !isOwed(v)) {
            return finding(BEYOND);
        }
        return here.worthOfSet(here.coinsFor(from, v)) - v;
    }

    public int loan(int from, int to, int v, int n) {
        if (!areTwoOwners(from, to) || !isOwed(v) || !isWithin(n, 1, MOST_MONTHS)) {
            return finding(BEYOND);
        }
        if (isPastTheEnd(n)) {
            return finding(STATE);
        }
        if (here.loans >= LOANS) {
            return finding(FULL);
        }
        return here.addLoan(from, to, v, n);
    }

    public int loanOf(int loan, int what) {
        if (!isWithin(loan, 0, here.loans - 1)) {
            return finding(BEYOND);
        }
        switch (what) {
            case 0:
                return here.debtorOf[loan];
            case 1:
                return here.lenderOf[loan];
            case 2:
                return here.owedOf[loan];
            case 3:
                return here.dueOf[loan];
            case 4:
                return here.paidOf[loan];
            default:
                return finding(BEYOND);
        }
    }

    public int tax() {
        return here.boilGreatest();
    }

    // ---- months

    public int months(int n) {
        if (!isWithin(n, 1, MOST_MONTHS)) {
            return finding(BEYOND);
        }
        if (isPastTheEnd(n)) {
            return finding(STATE);
        }
        int before = here.howMany(ROTTEN);
        here.goOn(n);
        return here.howMany(ROTTEN) - before;
    }

    public int now(int what) {
        switch (what) {
            case 0:
                return here.month;
            case 1:
                return here.season();
            case 2:
                return here.lacked;
            case 3:
                return here.howMany(SOUND);
            case 4:
                return here.howMany(ROTTEN);
            case 5:
                return here.howMany(PLANTED);
            default:
                return finding(BEYOND);
        }
    }

    // ---- on

    public int on(int coin, int n) {
        if (!isCoin(coin) || !isWithin(n, 0, MOST_MONTHS)) {
            return finding(BEYOND);
        }
        if (isPastTheEnd(n)) {
            return finding(STATE);
        }
        trial.become(here);
        trial.age(n);
        return trial.sizeOf[coin];
    }

    public int purseOn(int owner, int n) {
        if (!isOwner(owner) || !isWithin(n, 0, MOST_MONTHS)) {
            return finding(BEYOND);
        }
        if (isPastTheEnd(n)) {
            return finding(STATE);
        }
        trial.become(here);
        trial.goOn(n);
        return trial.purseOf(owner);
    }

    public int rich(int n) {
        if (!isWithin(n, 0, MOST_MONTHS)) {
            return finding(BEYOND);
        }
        if (isPastTheEnd(n)) {
            return finding(STATE);
        }
        trial.become(here);
        trial.goOn(n);
        return trial.richest();
    }

    public int rots(int coin) {
        if (!isCoin(coin)) {
            return finding(BEYOND);
        }
        if (isPastTheEnd(MOST_MONTHS)) {
            return finding(STATE);
        }
        trial.become(here);
        for (int n = 0; n <= MOST_MONTHS; n++) {
            if (trial.stateOf[coin] == ROTTEN) {
                return n;
            }
            trial.age(1);
        }
        return finding(NONE);
    }

    public int when(int coin) {
        if (!isCoin(coin)) {
            return finding(BEYOND);
        }
        if (isPastTheEnd(TWO_YEARS)) {
            return finding(STATE);
        }
        trial.become(here);
        int greatest = trial.worthOf(coin);
        int at = 0;
        for (int n = 1; n <= TWO_YEARS; n++) {
            trial.age(1);
            int worth = trial.worthOf(coin);
            if (worth > greatest) {
                greatest = worth;
                at = n;
            }
        }
        return at;
    }

    public int lacks(int n) {
        if (!isWithin(n, 0, MOST_MONTHS)) {
            return finding(BEYOND);
        }
        if (isPastTheEnd(n)) {
            return finding(STATE);
        }
        trial.become(here);
        trial.goOn(n);
        return trial.lacked - here.lacked;
    }

    // ---- what to do

    public int best(int coin, int n) {
        if (!isCoin(coin) || !isWithin(n, 1, TWO_YEARS)) {
            return finding(BEYOND);
        }
        if (here.stateOf[coin] != SOUND || isPastTheEnd(n)) {
            return finding(STATE);
        }
        int greatest = worthWith(coin, SOUND, n);
        int choice = 0;
        int spent = here.worthOf(coin);
        if (spent > greatest) {
            greatest = spent;
            choice = 1;
        }
        if (here.isPlantingTime() && worthWith(coin, PLANTED, n) > greatest) {
            choice = 2;
        }
        return choice;
    }

    public int kind(int coin, int n) {
        if (!isCoin(coin) || !isWithin(n, 1, MOST_MONTHS)) {
            return finding(BEYOND);
        }
        if (isPastTheEnd(n)) {
            return finding(STATE);
        }
        int greatest = -1;
        int choice = COIN;
        for (int k = COIN; k < KINDS; k++) {
            trial.become(here);
            trial.kindOf[coin] = k;
            trial.age(n);
            int worth = trial.worthOf(coin);
            if (worth > greatest) {
                greatest = worth;
                choice = k;
            }
        }
        return choice;
    }

    public int cellar(int n) {
        if (!isWithin(n, 1, FIVE_YEARS)) {
            return finding(BEYOND);
        }
        if (isPastTheEnd(n)) {
            return finding(STATE);
        }
        trial.become(here);
        trial.age(n);
        int fewest = trial.howMany(ROTTEN);
        int choice = NONE;
        for (int one = 0; one < here.coins; one++) {
            for (int other = one + 1; other < here.coins; other++) {
                int rotten = rottenWith(one, other, n, fewest);
                if (rotten < fewest) {
                    fewest = rotten;
                    choice = 100 * one + other;
                }
            }
        }
        return choice == NONE ? finding(NONE) : choice;
    }

    public int field(int owner, int n) {
        if (!isOwner(owner) || !isWithin(n, 1, TWO_YEARS)) {
            return finding(BEYOND);
        }
        if (!here.isPlantingTime() || isPastTheEnd(n)) {
            return finding(STATE);
        }
        int all = here.soundOf(owner);
        if (Integer.bitCount(all) > MOST_PLANTS) {
            return finding(SIZE);
        }
        int greatest = -1;
        int choice = 0;
        int set = 0;
        for (int i = 0; i < 1 << Integer.bitCount(all); i++) {
            int worth = purseWith(set, owner, n);
            if (worth > greatest) {
                greatest = worth;
                choice = set;
            }
            // The next greater set that has only bits of all.
            set = (set - all) & all;
        }
        return choice;
    }

    public int priceFor(int owner, int v) {
        if (!isOwner(owner) || !isWithin(v, 0, MOST_OWED)) {
            return finding(BEYOND);
        }
        trial.become(here);
        for (int p = 0; p <= MOST_PRICE; p++) {
            trial.priceOf[trial.season()] = p;
            if (trial.purseOf(owner) >= v) {
                return p;
            }
        }
        return finding(NONE);
    }

    public int taxMonth() {
        if (isPastTheEnd(SEASONS)) {
            return finding(STATE);
        }
        int greatest = -1;
        int choice = 0;
        trial.become(here);
        for (int n = 0; n < SEASONS; n++) {
            branch.become(trial);
            branch.boilGreatest();
            branch.goOn(SEASONS - n);
            int worth = branch.worthOfAll();
            if (worth > greatest) {
                greatest = worth;
                choice = n;
            }
            trial.goOn(1);
        }
        return choice;
    }

    public int bank() {
        int owner = here.ownerOfMostBlue();
        return owner < 0 ? finding(NONE) : owner;
    }

    // ---- the text

    public int feed(int bytes, int n) {
        if (!isWithin(n, 1, 4)) {
            return finding(BEYOND);
        }
        if (tape.length > TAPE - n) {
            return finding(FULL);
        }
        for (int i = n - 1; i >= 0; i--) {
            tape.append((bytes >>> (8 * i)) & 255);
        }
        return tape.length;
    }

    public int wipe() {
        int had = tape.length;
        tape.length = 0;
        return had;
    }

    public int market() {
        // The items come to a trial market first, so that a fault late in the text leaves nothing behind.
        trial.become(here);
        int items = tape.tellItems(trial);
        if (items >= 0) {
            here.become(trial);
        }
        tape.length = 0;
        return items;
    }

    // ---- sheets

    public int sheet(int s, int bits, int n) {
        if (!isSheet(s) || (bits != 0 && bits != 8 && bits != 16 && bits != 64)) {
            return finding(BEYOND);
        }
        if (n < 0) {
            return finding(SIZE);
        }
        if (n > NUMBERS) {
            return finding(BEYOND);
        }
        return sheets[s].begin(bits, n);
    }

    public long write(int s, int i, long v) {
        if (!isSheet(s)) {
            return finding(BEYOND);
        }
        Sheet sheet = sheets[s];
        if (sheet.isMissing()) {
            return finding(MISSING);
        }
        if (!isWithin(i, 0, sheet.length - 1)) {
            return finding(BEYOND);
        }
        long was = sheet.numbers[i];
        sheet.put(i, v);
        return was;
    }

    public int copy(int s, int from, int t, int to, int n) {
        if (!isSheet(s) || !isSheet(t)) {
            return finding(BEYOND);
        }
        Sheet source = sheets[s];
        Sheet target = sheets[t];
        if (source.isMissing() || target.isMissing()) {
            return finding(MISSING);
        }
        if (source.bits != target.bits) {
            return finding(KIND);
        }
        if (!source.hasRun(from, n) || !target.hasRun(to, n)) {
            return finding(BEYOND);
        }
        System.arraycopy(source.numbers, from, target.numbers, to, n);
        return n;
    }

    public int lays(int s) {
        if (!isSheet(s)) {
            return finding(BEYOND);
        }
        Sheet sheet = sheets[s];
        if (sheet.isMissing()) {
            return finding(MISSING);
        }
        int came = 0;
        for (int i = 0; i < sheet.length && i < SEASONS; i++) {
            long v = sheet.numbers[i];
            if (v >= 0 && v <= MOST_PRICE) {
                here.priceOf[i] = (int) v;
                came++;
            }
        }
        return came;
    }

    public int book(int s, int n) {
        if (!isSheet(s)) {
            return finding(BEYOND);
        }
        Sheet sheet = sheets[s];
        if (sheet.isMissing()) {
            return finding(MISSING);
        }
        if (!isWithin(n, 0, MOST_MONTHS)) {
            return finding(BEYOND);
        }
        if (isPastTheEnd(n)) {
            return finding(STATE);
        }
        trial.become(here);
        trial.age(n);
        int many = Math.min(trial.coins, sheet.length);
        for (int c = 0; c < many; c++) {
            sheet.put(c, trial.worthOf(c));
        }
        return many;
    }

    public int read(int s, int owner) {
        if (!isSheet(s)) {
            return finding(BEYOND);
        }
        Sheet sheet = sheets[s];
        if (sheet.isMissing()) {
            return finding(MISSING);
        }
        if (!isOwner(owner)) {
            return finding(BEYOND);
        }
        if (isPastTheEnd(NUMBERS)) {
            return finding(STATE);
        }
        trial.become(here);
        for (int i = 0; i < sheet.length; i++) {
            if (sheet.numbers[i] != trial.purseOf(owner)) {
                return 1 + i;
            }
            trial.goOn(1);
        }
        return 0;
    }

    // ---- images

    public int image() {
        kept.become(here);
        isKept = true;
        return 1;
    }

    public int undo() {
        if (!isKept) {
            return finding(NONE);
        }
        here.become(kept);
        return here.coins;
    }

    public int tear() {
        int was = isKept ? 1 : 0;
        isKept = false;
        return was;
    }

    public int count(int what) {
        switch (what) {
            case 0:
                return here.coins;
            case 1:
                return here.loans;
            case 2:
                return here.unpaid();
            case 3:
                return tape.length;
            case 4:
                return here.sizeOfAll();
            default:
                return finding(BEYOND);
        }
    }

    public int status(int which) {
        if (!isWithin(which, -1, FINDINGS - 1)) {
            return finding(BEYOND);
        }
        if (which >= 0) {
            return told[which];
        }
        int all = 0;
        for (int f = 0; f < FINDINGS; f++) {
            all += told[f];
        }
        return all;
    }

    // ---- what several calls ask

    private int finding(int f) {
        int place = BEYOND - f;
        if (place >= 0 && place < FINDINGS) {
            told[place]++;
        }
        return f;
    }

    private static boolean isWithin(int v, int least, int most) {
        return v >= least && v <= most;
    }

    private static boolean isOwner(int owner) {
        return isWithin(owner, 0, OWNERS - 1);
    }

    private static boolean areTwoOwners(int one, int other) {
        return isOwner(one) && isOwner(other) && one != other;
    }

    private static boolean isOwed(int v) {
        return isWithin(v, 1, MOST_OWED);
    }

    private static boolean isKind(int kind) {
        return isWithin(kind, 0, KINDS - 1);
    }

    private static boolean isSheet(int s) {
        return isWithin(s, 0, SHEETS - 1);
    }

    private boolean isCoin(int coin) {
        return isWithin(coin, 0, here.coins - 1);
    }

    private boolean isPastTheEnd(int n) {
        return here.month > LAST_MONTH - n;
    }

    private int worthWith(int coin, int state, int n) {
        trial.become(here);
        trial.stateOf[coin] = state;
        trial.age(n);
        return trial.worthOf(coin);
    }

    private int rottenWith(int one, int other, int n, int fewest) {
        trial.become(here);
        trial.exchange(one, other);
        int rotten = trial.howMany(ROTTEN);
        // What is ROTTEN stays so: once there are as many as the fewest so far, this change can't be better.
        for (int i = 0; i < n && rotten < fewest; i++) {
            trial.age(1);
            rotten = trial.howMany(ROTTEN);
        }
        return rotten;
    }

    private int purseWith(int planted, int owner, int n) {
        trial.become(here);
        trial.plantSet(planted);
        trial.goOn(n);
        return trial.purseOf(owner);
    }

    /** All that section 1 of the document tells, but for the tape. */
    private static final class Market {
        private static final int SET_BITS = COINS;
        private static final int SET_MASK = (1 << COINS) - 1;
        // Above every set with its worth, as cheapest() tells them.
        private static final int NO_SET = 1 << 30;

        final int[] kindOf = new int[COINS];
        final int[] ownerOf = new int[COINS];
        final int[] sizeOf = new int[COINS];
        final int[] stateOf = new int[COINS];
        final int[] soilOf = new int[OWNERS];
        final int[] priceOf = new int[SEASONS];
        final int[] debtorOf = new int[LOANS];
        final int[] lenderOf = new int[LOANS];
        final int[] owedOf = new int[LOANS];
        final int[] dueOf = new int[LOANS];
        final int[] paidOf = new int[LOANS];
        // Rows of the search for a payment alone; they stand here so that no payment makes new ones.
        private final int[] value = new int[COINS];
        private final int[] reach = new int[COINS];
        int coins;
        int loans;
        int month;
        int lacked;

        Market() {
            for (int owner = 0; owner < OWNERS; owner++) {
                soilOf[owner] = 5;
            }
            for (int season = 0; season < SEASONS; season++) {
                priceOf[season] = 10;
            }
        }

        void become(Market other) {
            coins = other.coins;
            loans = other.loans;
            month = other.month;
            lacked = other.lacked;
            System.arraycopy(other.kindOf, 0, kindOf, 0, COINS);
            System.arraycopy(other.ownerOf, 0, ownerOf, 0, COINS);
            System.arraycopy(other.sizeOf, 0, sizeOf, 0, COINS);
            System.arraycopy(other.stateOf, 0, stateOf, 0, COINS);
            System.arraycopy(other.soilOf, 0, soilOf, 0, OWNERS);
            System.arraycopy(other.priceOf, 0, priceOf, 0, SEASONS);
            System.arraycopy(other.debtorOf, 0, debtorOf, 0, LOANS);
            System.arraycopy(other.lenderOf, 0, lenderOf, 0, LOANS);
            System.arraycopy(other.owedOf, 0, owedOf, 0, LOANS);
            System.arraycopy(other.dueOf, 0, dueOf, 0, LOANS);
            System.arraycopy(other.paidOf, 0, paidOf, 0, LOANS);
        }

        // -- kinds

        static boolean isUnder(int kind, int above) {
            return kind == above || above == COIN || (kind == BOILED && above == RED) || (kind == SKY && above == BLUE);
        }

        static int shrinks(int kind, int season) {
            int plain = season >= 2 && season <= 4 ? 3 : 1;
            switch (kind) {
                case BLUE:
                    return plain / 3;
                case RED:
                    return 2 * plain;
                case BOILED:
                    return 2 * plain + 1;
                case SKY:
                    return season >= 9 ? 0 : plain / 3;
                default:
                    return plain;
            }
        }

        static int yields(int kind, int soil) {
            int plain = soil + 5;
            switch (kind) {
                case SEED:
                    return plain + 3;
                case BLUE:
                case SKY:
                    return Math.max(0, plain - 4);
                case BOILED:
                    return 0;
                default:
                    return plain;
            }
        }

        static boolean turns(int kind) {
            return !isUnder(kind, BLUE);
        }

        // -- coins

        /** The caller has seen that there is room. */
        int addCoin(int kind, int owner, int size, int state) {
            int coin = coins;
            if (coin >= COINS) {
                return -1;
            }
            kindOf[coin] = kind;
            ownerOf[coin] = owner;
            sizeOf[coin] = size;
            stateOf[coin] = state;
            coins++;
            return coin;
        }

        void exchange(int one, int other) {
            exchangeIn(kindOf, one, other);
            exchangeIn(ownerOf, one, other);
            exchangeIn(sizeOf, one, other);
            exchangeIn(stateOf, one, other);
        }

        private static void exchangeIn(int[] row, int one, int other) {
            int v = row[one];
            row[one] = row[other];
            row[other] = v;
        }

        void plantSet(int set) {
            for (int c = 0; c < coins; c++) {
                if ((set >> c & 1) == 1) {
                    stateOf[c] = PLANTED;
                }
            }
        }

        int season() {
            return month % SEASONS;
        }

        boolean isPlantingTime() {
            return season() >= 2 && season() <= 5;
        }

        int yieldOf(int coin) {
            return yields(kindOf[coin], soilOf[ownerOf[coin]]);
        }

        int worthOf(int coin) {
            return stateOf[coin] == SOUND ? sizeOf[coin] * priceOf[season()] / 10 : 0;
        }

        int howMany(int state) {
            int many = 0;
            for (int c = 0; c < coins; c++) {
                if (stateOf[c] == state) {
                    many++;
                }
            }
            return many;
        }

        int sizeOfAll() {
            int all = 0;
            for (int c = 0; c < coins; c++) {
                all += sizeOf[c];
            }
            return all;
        }

        // -- owners

        boolean isSoundOf(int coin, int owner) {
            return stateOf[coin] == SOUND && ownerOf[coin] == owner;
        }

        int soundOf(int owner) {
            int set = 0;
            for (int c = 0; c < coins; c++) {
                if (isSoundOf(c, owner)) {
                    set |= 1 << c;
                }
            }
            return set;
        }

        int worthOfSet(int set) {
            int worth = 0;
            for (int c = 0; c < coins; c++) {
                if ((set >> c & 1) == 1) {
                    worth += worthOf(c);
                }
            }
            return worth;
        }

        int purseOf(int owner) {
            return worthOfSet(soundOf(owner));
        }

        int worthOfAll() {
            return worthOfSet(SET_MASK);
        }

        int richest() {
            int greatest = purseOf(0);
            int who = 0;
            for (int owner = 1; owner < OWNERS; owner++) {
                int worth = purseOf(owner);
                if (worth > greatest) {
                    greatest = worth;
                    who = owner;
                }
            }
            return who;
        }

        /** -1 if there is no such coin. */
        int ownerOfMostBlue() {
            int most = 0;
            int who = -1;
            for (int owner = 0; owner < OWNERS; owner++) {
                int many = 0;
                for (int c = 0; c < coins; c++) {
                    if (isSoundOf(c, owner) && isUnder(kindOf[c], BLUE)) {
                        many++;
                    }
                }
                if (many > most) {
                    most = many;
                    who = owner;
                }
            }
            return who;
        }

        int boilGreatest() {
            int boiled = 0;
            for (int owner = 0; owner < OWNERS; owner++) {
                int coin = greatestOf(owner);
                if (coin >= 0) {
                    kindOf[coin] = BOILED;
                    boiled++;
                }
            }
            return boiled;
        }

        /** -1 if the owner has no SOUND coin. */
        private int greatestOf(int owner) {
            int greatest = -1;
            int coin = -1;
            for (int c = 0; c < coins; c++) {
                if (isSoundOf(c, owner) && worthOf(c) > greatest) {
                    greatest = worthOf(c);
                    coin = c;
                }
            }
            return coin;
        }

        // -- payments, loans

        int handOver(int from, int to, int v) {
            int set = coinsFor(from, v);
            lacked += Math.max(0, v - worthOfSet(set));
            for (int c = 0; c < coins; c++) {
                if ((set >> c & 1) == 1) {
                    ownerOf[c] = to;
                }
            }
            return set;
        }

        int coinsFor(int from, int v) {
            int sum = 0;
            for (int c = 0; c < coins; c++) {
                value[c] = isSoundOf(c, from) ? worthOf(c) : 0;
                sum += value[c];
                reach[c] = sum;
            }
            if (sum < v) {
                return soundOf(from);
            }
            return cheapest(value, reach, coins - 1, 0, v, NO_SET) & SET_MASK;
        }

        /**
         * A set is told together with its worth, the worth in the higher bits: so the lesser number is the
         * lesser worth, and of one worth the lesser set. The search leaves the highest coin out before it takes
         * it, so it meets the sets from the least one on and may stop at the first that is worth v to the point.
         */
        private static int cheapest(int[] value, int[] reach, int coin, int taken, int v, int best) {
            int sum = taken >> SET_BITS;
            if (sum >= v) {
                return Math.min(taken, best);
            }
            if (coin < 0 || coin >= COINS || sum + reach[coin] < v || best >> SET_BITS == v) {
                return best;
            }
            int without = cheapest(value, reach, coin - 1, taken, v, best);
            if (value[coin] == 0) {
                return without;
            }
            int with = taken + (value[coin] << SET_BITS) + (1 << coin);
            return cheapest(value, reach, coin - 1, with, v, without);
        }

        /** The caller has seen that there is room. */
        int addLoan(int from, int to, int v, int n) {
            int loan = loans;
            if (loan >= LOANS) {
                return -1;
            }
            debtorOf[loan] = from;
            lenderOf[loan] = to;
            owedOf[loan] = v;
            dueOf[loan] = month + n;
            paidOf[loan] = 0;
            loans++;
            return loan;
        }

        int unpaid() {
            int many = 0;
            for (int i = 0; i < loans; i++) {
                many += 1 - paidOf[i];
            }
            return many;
        }

        private void payDue() {
            for (int i = 0; i < loans; i++) {
                if (dueOf[i] == month && paidOf[i] == 0) {
                    handOver(debtorOf[i], lenderOf[i], owedOf[i]);
                    paidOf[i] = 1;
                }
            }
        }

        // -- months

        void goOn(int n) {
            for (int i = 0; i < n; i++) {
                ageOnce();
                payDue();
            }
        }

        /**
         * Months without their payments, for what asks of coins alone: a payment moves only SOUND coins, and
         * the owner matters only to what a PLANTED one yields, so no payment changes what becomes of a coin.
         */
        void age(int n) {
            for (int i = 0; i < n; i++) {
                ageOnce();
            }
        }

        private void ageOnce() {
            int season = season();
            int rotten = rottenSet();
            int beside = rotten << 1 | rotten >> 1;
            for (int c = 0; c < coins; c++) {
                if (stateOf[c] == SOUND) {
                    shrinkOne(c, season, (beside >> c & 1) == 1);
                } else if (stateOf[c] == PLANTED && season == 8) {
                    harvestOne(c);
                }
            }
            month++;
        }

        private int rottenSet() {
            int set = 0;
            for (int c = 0; c < coins; c++) {
                if (stateOf[c] == ROTTEN) {
                    set |= 1 << c;
                }
            }
            return set;
        }

        private void shrinkOne(int coin, int season, boolean besideRotten) {
            int kind = kindOf[coin];
            int left = Math.max(0, sizeOf[coin] - shrinks(kind, season));
            sizeOf[coin] = left;
            if (left == 0 || (besideRotten && turns(kind))) {
                stateOf[coin] = ROTTEN;
            }
        }

        private void harvestOne(int coin) {
            int grown = Math.min(MOST_SIZE, sizeOf[coin] * yieldOf(coin));
            sizeOf[coin] = grown;
            stateOf[coin] = grown == 0 ? ROTTEN : SOUND;
        }
    }

    /** The bytes of a text, and what they tell as items of a market. */
    private static final class Tape {
        private static final int END = 0;
        private static final int WORD = 1;
        private static final int NUMBER = 2;
        private static final int SIGN = 3;
        private static final int NO_TOKEN = 4;
        private static final int MOST_NUMBER = 9999;

        private final int[] bytes = new int[TAPE];
        int length;
        // The token that stands next: which, its first byte, the byte behind it, and what it is if a NUMBER.
        private int token;
        private int start;
        private int end;
        private int amount;

        void append(int b) {
            if (length < TAPE) {
                bytes[length] = b;
                length++;
            }
        }

        /** How many items came to the market; with a fault -1 less its place, and the market is half told. */
        int tellItems(Market to) {
            end = 0;
            goAhead();
            // An item has more bytes than one, so there are never so many.
            for (int items = 1; items <= TAPE; items++) {
                if (!tellItem(to)) {
                    return -1 - start;
                }
                if (token == END) {
                    return items;
                }
                if (token != SIGN) {
                    return -1 - start;
                }
                goAhead();
            }
            return -1 - start;
        }

        // -- items: each stops at the token that can't stand there

        private boolean tellItem(Market to) {
            int kind = kindNamed();
            if (kind >= 0) {
                return to.coins < COINS && tellCoin(to, kind);
            }
            if (isWord("soil")) {
                return tellSoil(to);
            }
            if (isWord("price")) {
                return tellPrice(to);
            }
            return isWord("loan") && to.loans < LOANS && tellLoan(to);
        }

        private boolean tellCoin(Market to, int kind) {
            goAhead();
            if (!takeWord("of")) {
                return false;
            }
            int owner = takeNumber(0, OWNERS - 1);
            if (owner < 0 || !takeWord("size")) {
                return false;
            }
            int size = takeNumber(0, MOST_SIZE);
            if (size < 0) {
                return false;
            }
            int state = takeWord("rotten") ? ROTTEN : takeWord("planted") ? PLANTED : SOUND;
            to.addCoin(kind, owner, size, state);
            return true;
        }

        private boolean tellSoil(Market to) {
            goAhead();
            int owner = takeNumber(0, OWNERS - 1);
            if (owner < 0) {
                return false;
            }
            int v = takeNumber(0, MOST_SOIL);
            if (v < 0) {
                return false;
            }
            to.soilOf[owner] = v;
            return true;
        }

        private boolean tellPrice(Market to) {
            goAhead();
            int season = takeNumber(0, SEASONS - 1);
            if (season < 0) {
                return false;
            }
            int v = takeNumber(0, MOST_PRICE);
            if (v < 0) {
                return false;
            }
            to.priceOf[season] = v;
            return true;
        }

        private boolean tellLoan(Market to) {
            goAhead();
            int debtor = takeNumber(0, OWNERS - 1);
            if (debtor < 0 || !takeWord("to")) {
                return false;
            }
            if (token == NUMBER && amount == debtor) {
                return false;
            }
            int lender = takeNumber(0, OWNERS - 1);
            if (lender < 0) {
                return false;
            }
            int v = takeNumber(1, MOST_OWED);
            if (v < 0 || !takeWord("in")) {
                return false;
            }
            int n = takeNumber(1, MOST_MONTHS);
            if (n < 0) {
                return false;
            }
            to.addLoan(debtor, lender, v, n);
            return true;
        }

        /** -1 if no name of a kind stands next. */
        private int kindNamed() {
            for (int kind = 0; kind < KINDS; kind++) {
                if (isWord(nameOf(kind))) {
                    return kind;
                }
            }
            return -1;
        }

        private static String nameOf(int kind) {
            switch (kind) {
                case BLUE:
                    return "blue";
                case RED:
                    return "red";
                case SEED:
                    return "seed";
                case BOILED:
                    return "boiled";
                case SKY:
                    return "sky";
                default:
                    return "coin";
            }
        }

        // -- tokens

        private boolean takeWord(String word) {
            if (!isWord(word)) {
                return false;
            }
            goAhead();
            return true;
        }

        /** -1, and the token still stands next, if it is no NUMBER that may be. */
        private int takeNumber(int least, int most) {
            if (token != NUMBER || amount < least || amount > most) {
                return -1;
            }
            int taken = amount;
            goAhead();
            return taken;
        }

        private boolean isWord(String word) {
            if (token != WORD || end - start != word.length()) {
                return false;
            }
            for (int i = 0; i < word.length(); i++) {
                if (byteAt(start + i) != word.charAt(i)) {
                    return false;
                }
            }
            return true;
        }

        private void goAhead() {
            start = end;
            while (start < length && byteAt(start) == ' ') {
                start++;
            }
            end = start + 1;
            amount = 0;
            int first = byteAt(start);
            if (start >= length) {
                token = END;
                end = start;
            } else if (isLetter(first)) {
                token = WORD;
                endWord();
            } else if (isDigit(first)) {
                token = NUMBER;
                endNumber();
            } else {
                token = first == ';' ? SIGN : NO_TOKEN;
            }
        }

        private void endWord() {
            while (end < length && isLetter(byteAt(end))) {
                end++;
            }
        }

        private void endNumber() {
            amount = byteAt(start) - '0';
            while (end < length && isDigit(byteAt(end))) {
                // It stays just above what any number may be, however many digits there are.
                amount = Math.min(MOST_NUMBER + 1, 10 * amount + byteAt(end) - '0');
                end++;
            }
        }

        private static boolean isLetter(int b) {
            return b >= 'a' && b <= 'z';
        }

        private static boolean isDigit(int b) {
            return b >= '0' && b <= '9';
        }

        private int byteAt(int place) {
            return place >= 0 && place < length && place < TAPE ? bytes[place] : -1;
        }
    }

    /** A row of numbers of so many bits; of 0 bits: MISSING. */
    private static final class Sheet {
        final long[] numbers = new long[NUMBERS];
        int bits;
        int length;

        boolean isMissing() {
            return bits == 0;
        }

        int begin(int newBits, int n) {
            bits = newBits;
            length = newBits == 0 ? 0 : n;
            for (int i = 0; i < NUMBERS; i++) {
                numbers[i] = 0;
            }
            return length;
        }

        void put(int i, long v) {
            numbers[i] = lowestBits(v);
        }

        private long lowestBits(long v) {
            switch (bits) {
                case 8:
                    return (byte) v;
                case 16:
                    return (short) v;
                default:
                    return v;
            }
        }

        boolean hasRun(int from, int n) {
            return from >= 0 && n >= 0 && from <= length - n;
        }
    }
}
