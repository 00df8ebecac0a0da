import java.util.Arrays;

/**
 * Shades on the near bank, a boat with one oar, and the nights on which they cross.
 * What each call answers, and in which order it refuses, stands in ../shared/DOC.md.
 */
public final class RowBack {
    public static final int UNKNOWN = -1, OUTSIDE = -2, STATE = -3, FULL = -4, NONE = -9;
    public static final long LOST = Long.MIN_VALUE;

    private static final int NO_FAULT = 0, NULL = 1, CAST = 2, INDEX = 3, SIZE = 4;
    private static final int SHEETS = 4, CELLS = 60, LANES = 3;
    private static final int BYTES = 0, SHORTS = 1;
    private static final int SHADES = 6, SETS = 1 << SHADES, NIGHTS = 60, LAWS = 3;
    private static final int KINDS = 3, SHADE = 0, DROWNED = 1, LIVING = 2;
    private static final int LOANS = 6, READINGS = 6;
    private static final int MOST_LENT = 3, MOST_BORROWED = 9, MOST_CROSSINGS = 20;
    private static final int FERRYMAN = 9;

    private final Sheet[] sheets;
    private final Bank bank;
    private final Loans loans;
    private final Readings readings;
    private final Ferry ferry;
    /** The nights as they are by the LAW and the LOANS that stand; kept true by goThroughNights(). */
    private final Voyage now;
    /** The nights as they would be; each question goes through them anew. */
    private final Voyage trial;
    private final int[] coins;
    private final int[] trialCoins;
    private int law;
    private int trace;
    private int fault;

    // All rows are made here, once: no call makes an object.
    public RowBack() {
        Sheet[] fourSheets = new Sheet[SHEETS];
        for (int k = 0; k < SHEETS; k++) {
            fourSheets[k] = new Sheet();
        }
        Bank emptyBank = new Bank();
        sheets = fourSheets;
        bank = emptyBank;
        loans = new Loans();
        readings = new Readings();
        ferry = new Ferry(emptyBank);
        now = new Voyage(emptyBank);
        trial = new Voyage(emptyBank);
        coins = new int[SHADES];
        trialCoins = new int[SHADES];
        law = 0;
        trace = 0;
        fault = NO_FAULT;
    }

    // ---- 1 the bank

    public int bank(int sheet, int lane, int i, int n) {
        if (!isSheet(sheet)) return faultless(UNKNOWN);
        if (!isLane(lane)) return faultless(OUTSIDE);
        Sheet from = sheets[sheet];
        int found = from.faultOfCells(lane, i, n);
        if (found != NO_FAULT) return faulted(found);
        int wrong = Text.firstFault(from.cells, i, n);
        if (wrong != Text.TAKEN) return faultless(-100 - wrong);
        bank.become(from.cells, i, n);
        loans.count = 0;
        readings.count = 0;
        law = 0;
        goThroughNights();
        return faultless(bank.shades);
    }

    public int ofShade(int s, int what) {
        if (!isShade(s)) return UNKNOWN;
        switch (what) {
            case 0: return bank.kind[s];
            case 1: return bank.told[s];
            case 2: return bank.weight[s];
            case 3: return bank.comes[s];
            case 4: return bank.price(s);
            case 5: return bank.heavy(s);
            case 6: return coins[s];
            default: return OUTSIDE;
        }
    }

    public int law(int v) {
        if (v < 0 || v >= LAWS) return OUTSIDE;
        if (noBank()) return STATE;
        int before = law;
        law = v;
        goThroughNights();
        return before;
    }

    public int loan(int from, int to, int coins) {
        if (!isShade(from) || !isShade(to) || from == to) return UNKNOWN;
        if (coins < 1 || coins > MOST_LENT) return OUTSIDE;
        if (this.coins[from] < coins) return STATE;
        if (loans.count == LOANS) return FULL;
        int number = loans.add(from, to, coins);
        goThroughNights();
        return number;
    }

    public int undo(int k) {
        if (k < 0 || k > loans.count) return OUTSIDE;
        loans.count -= k;
        goThroughNights();
        return loans.count;
    }

    // ---- 2 nights

    public int over(int s) {
        return isShade(s) ? now.overOn[s] : UNKNOWN;
    }

    public int overBy(int night) {
        return ofNight(now.overAfter, night);
    }

    public int rower(int night) {
        return ofNight(now.rowers, night);
    }

    public int sits(int night) {
        return ofNight(now.seated, night);
    }

    public int waits(int s) {
        return isShade(s) ? now.waitOf(s) : UNKNOWN;
    }

    public int allWait() {
        return noBank() ? STATE : now.waitOfAll();
    }

    // ---- 3 crossings, laws

    public int crossings(int sheet, int lane, int i, int n) {
        if (!isSheet(sheet)) return faultless(UNKNOWN);
        if (!isLane(lane)) return faultless(OUTSIDE);
        if (noBank()) return faultless(STATE);
        Sheet from = sheets[sheet];
        int found = from.faultOfCells(lane, i, n);
        if (found != NO_FAULT) return faulted(found);
        if (n > MOST_CROSSINGS || !bank.knowsAll(from.cells, i, n)) return faultless(OUTSIDE);
        return faultless(ferry.firstWrong(from.cells, i, n, bank.whoPays(coins)));
    }

    public int least() {
        return noBank() ? STATE : ferry.leastWaiting(bank.whoPays(coins));
    }

    public int laws(int w) {
        if (w < 0 || w > NIGHTS) return OUTSIDE;
        if (noBank()) return STATE;
        int set = 0;
        for (int v = 0; v < LAWS; v++) {
            trial.goThrough(coins, v);
            if (trial.longestWait() <= w) set |= 1 << v;
        }
        return set;
    }

    // ---- 4 loans, who paid

    public int gain(int what) {
        if (what < 0 || what > 1) return OUTSIDE;
        if (noBank()) return STATE;
        int best = NONE;
        int wait = now.waitOfAll();
        for (int from = 0; from < bank.shades; from++) {
            for (int to = 0; to < bank.shades; to++) {
                if (from == to || coins[from] < 1) continue;
                tryLoan(from, to);
                if (trial.waitOfAll() < wait) {
                    best = 10 * from + to;
                    wait = trial.waitOfAll();
                }
            }
        }
        return what == 0 ? best : wait;
    }

    public int favours(int s) {
        if (!isShade(s)) return UNKNOWN;
        if (bank.kind[s] != LIVING) return STATE;
        for (int borrowed = 0; borrowed <= MOST_BORROWED; borrowed++) {
            System.arraycopy(coins, 0, trialCoins, 0, SHADES);
            trialCoins[s] += borrowed - loans.lentTo(s);
            trial.goThrough(trialCoins, law);
            if (trial.overOn[s] != NONE) return borrowed;
        }
        return NONE;
    }

    public int reading(int s, int night, boolean was) {
        if (!isShade(s) || !isNight(night)) return UNKNOWN;
        if (readings.count == READINGS) return FULL;
        return readings.add(s, night, was);
    }

    public int back(int k) {
        if (k < 0 || k > readings.count) return OUTSIDE;
        readings.count -= k;
        return readings.count;
    }

    public int payers(int s) {
        if (!isShade(s)) return UNKNOWN;
        int set = 0;
        for (int payer = 0; payer < bank.shades; payer++) {
            if (payer == s || coins[payer] < 1) continue;
            tryLoan(payer, s);
            if (readings.allSo(trial)) set |= 1 << payer;
        }
        return set;
    }

    public int rules() {
        if (noBank()) return STATE;
        int set = 0;
        for (int v = 0; v < LAWS; v++) {
            trial.goThrough(coins, v);
            if (readings.allSo(trial)) set |= 1 << v;
        }
        return set;
    }

    // ---- 5 sheets, parts

    public int sheet(int k, int lane, int n) {
        if (!isSheet(k)) return faultless(UNKNOWN);
        if (!isLane(lane) || n > CELLS) return faultless(OUTSIDE);
        if (n < 0) return faulted(SIZE);
        sheets[k].renew(lane, n);
        return faultless(1);
    }

    public int lose(int k) {
        if (!isSheet(k)) return UNKNOWN;
        int had = sheets[k].hasRow ? 1 : 0;
        sheets[k].hasRow = false;
        return had;
    }

    public int put(int k, int i, int v) {
        if (!isSheet(k)) return faultless(UNKNOWN);
        int found = sheets[k].faultOfCells(sheets[k].lane, i, 1);
        if (found != NO_FAULT) return faulted(found);
        sheets[k].write(i, v);
        return faultless(1);
    }

    public long cell(int k, int i, int lane) {
        fault = NO_FAULT;
        if (!isSheet(k) || !isLane(lane)) return LOST;
        fault = sheets[k].faultOfCells(lane, i, 1);
        return fault == NO_FAULT ? sheets[k].cells[i] : LOST;
    }

    public int copy(int k, int i, int other, int j, int n) {
        if (!isSheet(k) || !isSheet(other)) return faultless(UNKNOWN);
        Sheet from = sheets[k];
        Sheet to = sheets[other];
        if (!from.hasRow || !to.hasRow) return faulted(NULL);
        if (from.lane != to.lane) return faulted(CAST);
        if (n < 0 || !from.holds(i, n) || !to.holds(j, n)) return faulted(INDEX);
        System.arraycopy(from.cells, i, to.cells, j, n);
        return faultless(n);
    }

    public int tell(int s) {
        if (!isShade(s)) return UNKNOWN;
        switch (bank.kind[s]) {
            case LIVING: return livingTells(s);
            case DROWNED: return drownedTells(s);
            default: return shadeTells(s);
        }
    }

    public int hail(int s) {
        if (!isShade(s)) return UNKNOWN;
        return bank.kind[s] == LIVING ? hailLiving() : hailByNumber(s);
    }

    public int as(int s, int kind) {
        if (!isShade(s)) return faultless(UNKNOWN);
        if (kind < 0 || kind >= KINDS) return faultless(OUTSIDE);
        // each kind is one of all kinds of a lower number, too
        return bank.kind[s] < kind ? faulted(CAST) : faultless(1);
    }

    public int trace() {
        return trace;
    }

    public int fault() {
        return fault;
    }

    public int many(int what) {
        switch (what) {
            case 0: return bank.shades;
            case 1: return bank.seats;
            case 2: return bank.bears;
            case 3: return bank.rows;
            case 4: return loans.count;
            case 5: return readings.count;
            case 6: return law;
            default: return OUTSIDE;
        }
    }

    // ---- what the calls share

    private boolean noBank() {
        return bank.shades == 0;
    }

    private boolean isShade(int s) {
        return s >= 0 && s < bank.shades;
    }

    private static boolean isNight(int night) {
        return night >= 0 && night < NIGHTS;
    }

    private static boolean isSheet(int k) {
        return k >= 0 && k < SHEETS;
    }

    private static boolean isLane(int lane) {
        return lane >= 0 && lane < LANES;
    }

    private int faultless(int answer) {
        fault = NO_FAULT;
        return answer;
    }

    private int faulted(int found) {
        fault = found;
        return -10 - found;
    }

    private int ofNight(int[] row, int night) {
        if (!isNight(night)) return UNKNOWN;
        return noBank() ? STATE : row[night];
    }

    private void goThroughNights() {
        for (int s = 0; s < bank.shades; s++) {
            coins[s] = bank.told[s] - loans.lentBy(s) + loans.lentTo(s);
        }
        now.goThrough(coins, law);
    }

    private void tryLoan(int from, int to) {
        System.arraycopy(coins, 0, trialCoins, 0, SHADES);
        trialCoins[from]--;
        trialCoins[to]++;
        trial.goThrough(trialCoins, law);
    }

    private void leave(int body) {
        trace = 31 * trace + body;
    }

    private int shadeTells(int s) {
        leave(1);
        return bank.weight[s];
    }

    private int drownedTells(int s) {
        leave(2);
        return shadeTells(s) + 100;
    }

    private int livingTells(int s) {
        leave(3);
        int asDrowned = drownedTells(s);
        return asDrowned + shadeTells(s);
    }

    private int hailByNumber(int s) {
        leave(4);
        return s;
    }

    private int hailLiving() {
        leave(5);
        return 60;
    }

    /** A row of numbers of a lane, or nothing; what it has is cut to its lane as it comes in. */
    private static final class Sheet {
        final int[] cells = new int[CELLS];
        boolean hasRow = false;
        int lane = BYTES;
        int length = 0;

        void renew(int lane, int length) {
            this.hasRow = true;
            this.lane = lane;
            this.length = length;
            Arrays.fill(cells, 0);
        }

        boolean holds(int i, int n) {
            return i >= 0 && i <= length && n <= length - i;
        }

        int faultOfCells(int lane, int i, int n) {
            if (!hasRow) return NULL;
            if (this.lane != lane) return CAST;
            if (n < 0) return SIZE;
            return holds(i, n) ? NO_FAULT : INDEX;
        }

        void write(int i, int v) {
            switch (lane) {
                case BYTES: cells[i] = (byte) v; break;
                case SHORTS: cells[i] = (short) v; break;
                default: cells[i] = v; break;
            }
        }
    }

    /** Which codes a TEXT has, place by place. */
    private static final class Text {
        static final int TAKEN = -1, HEAD = 5, PART = 6;

        static int firstFault(int[] cells, int from, int n) {
            for (int place = 0; place < n; place++) {
                int ahead = place == 0 ? 0 : cells[from + place - 1];
                if (!mayStand(place, cells[from + place], ahead)) return place;
            }
            return n > HEAD && (n - HEAD) % PART == 0 ? TAKEN : n;
        }

        static boolean mayStand(int place, int code, int ahead) {
            if (place < HEAD) return mayStandInHead(place, code, ahead);
            return place < HEAD + SHADES * PART && mayStandInPart((place - HEAD) % PART, code);
        }

        static boolean mayStandInHead(int place, int code, int ahead) {
            switch (place) {
                case 0: return code == 'r';
                case 2: return isDigit(code, 0, 9);
                case 3: return isDigit(code, ahead == '0' ? 1 : 0, 9);
                default: return isDigit(code, 1, 4);
            }
        }

        static boolean mayStandInPart(int place, int code) {
            switch (place) {
                case 0: return code == ';';
                case 1: return code == 's' || code == 'd' || code == 'l';
                case 2: return isDigit(code, 0, 3);
                case 3: return isDigit(code, 1, 9);
                case 4: return isDigit(code, 0, 2);
                default: return isDigit(code, 0, 9);
            }
        }

        static boolean isDigit(int code, int least, int most) {
            return code >= '0' + least && code <= '0' + most;
        }

        static int kindOf(int letter) {
            switch (letter) {
                case 'l': return LIVING;
                case 'd': return DROWNED;
                default: return SHADE;
            }
        }

        static int digit(int[] cells, int place) {
            return cells[place] - '0';
        }

        static int twoDigits(int[] cells, int place) {
            return 10 * digit(cells, place) + digit(cells, place + 1);
        }
    }

    /** The boat and the shades as a TEXT tells them; no shades without a TEXT. */
    private static final class Bank {
        int shades = 0;
        int seats = 0;
        int bears = 0;
        int rows = 0;
        final int[] kind = new int[SHADES];
        final int[] told = new int[SHADES];
        final int[] weight = new int[SHADES];
        final int[] comes = new int[SHADES];
        /** Who has come by each night, as a set. */
        final int[] comeBy = new int[NIGHTS];
        /** How heavy each set of shades is. */
        final int[] load = new int[SETS];

        void become(int[] cells, int from, int n) {
            seats = Text.digit(cells, from + 1);
            bears = Text.twoDigits(cells, from + 2);
            rows = Text.digit(cells, from + 4);
            shades = (n - Text.HEAD) / Text.PART;
            for (int s = 0; s < shades; s++) {
                int part = from + Text.HEAD + s * Text.PART;
                kind[s] = Text.kindOf(cells[part + 1]);
                told[s] = Text.digit(cells, part + 2);
                weight[s] = Text.digit(cells, part + 3);
                comes[s] = Text.twoDigits(cells, part + 4);
            }
            findComing();
            findLoads();
        }

        private void findComing() {
            for (int night = 0; night < NIGHTS; night++) {
                comeBy[night] = 0;
                for (int s = 0; s < shades; s++) {
                    if (comes[s] <= night) comeBy[night] |= 1 << s;
                }
            }
        }

        private void findLoads() {
            for (int set = 0; set < SETS; set++) {
                load[set] = 0;
                for (int s = 0; s < shades; s++) {
                    if ((set >> s & 1) == 1) load[set] += heavy(s);
                }
            }
        }

        int price(int s) {
            switch (kind[s]) {
                case LIVING: return 3;
                case DROWNED: return 2;
                default: return 1;
            }
        }

        int heavy(int s) {
            switch (kind[s]) {
                case LIVING: return 2 * (weight[s] + 2);
                case DROWNED: return weight[s] + 2;
                default: return weight[s];
            }
        }

        int whoPays(int[] coins) {
            int set = 0;
            for (int s = 0; s < shades; s++) {
                if (coins[s] >= price(s)) set |= 1 << s;
            }
            return set;
        }

        boolean knowsAll(int[] sets, int from, int n) {
            for (int night = 0; night < n; night++) {
                if ((sets[from + night] >> shades) != 0) return false;
            }
            return true;
        }

        boolean carries(int set) {
            return Integer.bitCount(set) <= seats && load[set] <= bears;
        }
    }

    /** The loans in the order in which they were made. */
    private static final class Loans {
        final int[] lender = new int[LOANS];
        final int[] borrower = new int[LOANS];
        final int[] amount = new int[LOANS];
        int count = 0;

        int add(int from, int to, int coins) {
            lender[count] = from;
            borrower[count] = to;
            amount[count] = coins;
            count++;
            return count - 1;
        }

        int lentBy(int s) {
            return sum(lender, s);
        }

        int lentTo(int s) {
            return sum(borrower, s);
        }

        private int sum(int[] side, int s) {
            int coins = 0;
            for (int k = 0; k < count; k++) {
                if (side[k] == s) coins += amount[k];
            }
            return coins;
        }
    }

    /** What was seen at the end of nights, in the order in which it was told. */
    private static final class Readings {
        final int[] shade = new int[READINGS];
        final int[] night = new int[READINGS];
        final boolean[] wasOver = new boolean[READINGS];
        int count = 0;

        int add(int s, int night, boolean was) {
            shade[count] = s;
            this.night[count] = night;
            wasOver[count] = was;
            count++;
            return count - 1;
        }

        boolean allSo(Voyage voyage) {
            for (int k = 0; k < count; k++) {
                boolean isOver = (voyage.overAfter[night[k]] >> shade[k] & 1) == 1;
                if (isOver != wasOver[k]) return false;
            }
            return true;
        }
    }

    /** The nights gone through by a LAW, with the coins that each shade has. */
    private static final class Voyage {
        final int[] overOn = new int[SHADES];
        final int[] rowers = new int[NIGHTS];
        final int[] seated = new int[NIGHTS];
        final int[] overAfter = new int[NIGHTS];
        private final Bank bank;
        private final int[] row = new int[SHADES];
        private final int[] rowed = new int[SHADES];

        Voyage(Bank bank) {
            this.bank = bank;
        }

        void goThrough(int[] coins, int law) {
            lineUp(coins, law);
            Arrays.fill(overOn, NONE);
            Arrays.fill(rowed, 0);
            int paying = bank.whoPays(coins);
            int over = 0;
            for (int night = 0; night < NIGHTS; night++) {
                int waiting = bank.comeBy[night] & ~over;
                rowers[night] = NONE;
                seated[night] = 0;
                if (waiting != 0) {
                    rowers[night] = firstOf(waiting & ~paying);
                    seated[night] = seat(waiting & paying);
                    over |= seated[night] | freed(rowers[night]);
                    note(waiting & over, night);
                }
                overAfter[night] = over;
            }
        }

        // Nothing that one is ranked by changes from night to night: the row is made
        // once, of all shades, and those who do not wait are passed by.
        private void lineUp(int[] coins, int law) {
            for (int s = 0; s < bank.shades; s++) {
                int place = s;
                for (; place > 0 && rank(row[place - 1], coins, law) > rank(s, coins, law); place--) {
                    row[place] = row[place - 1];
                }
                row[place] = s;
            }
        }

        private int rank(int s, int[] coins, int law) {
            switch (law) {
                case 1: return bank.heavy(s);
                case 2: return -coins[s];
                default: return bank.comes[s];
            }
        }

        private int firstOf(int set) {
            for (int place = 0; place < bank.shades; place++) {
                if ((set >> row[place] & 1) == 1) return row[place];
            }
            return FERRYMAN;
        }

        private int seat(int set) {
            int boat = 0;
            for (int place = 0; place < bank.shades; place++) {
                int one = set & 1 << row[place];
                if (bank.carries(boat | one)) boat |= one;
            }
            return boat;
        }

        private int freed(int rower) {
            if (rower < 0 || rower >= SHADES) return 0;
            rowed[rower]++;
            return rowed[rower] == bank.rows ? 1 << rower : 0;
        }

        private void note(int set, int night) {
            for (int s = 0; s < bank.shades; s++) {
                if ((set >> s & 1) == 1) overOn[s] = night;
            }
        }

        int waitOf(int s) {
            int end = overOn[s] == NONE ? NIGHTS : overOn[s];
            return end - bank.comes[s];
        }

        int waitOfAll() {
            int sum = 0;
            for (int s = 0; s < bank.shades; s++) {
                sum += waitOf(s);
            }
            return sum;
        }

        int longestWait() {
            int longest = 0;
            for (int s = 0; s < bank.shades; s++) {
                longest = Math.max(longest, waitOf(s));
            }
            return longest;
        }
    }

    /** Crossings by the ferryman, in place of the LAW: nobody else rows. */
    private static final class Ferry {
        /** More than any waiting: 6 shades wait 60 nights at most. */
        private static final int FAR = 1000;
        private final Bank bank;
        /** By who is over, as a set: the least that all have waited so far. */
        private final int[] waited = new int[SETS];

        Ferry(Bank bank) {
            this.bank = bank;
        }

        int firstWrong(int[] sets, int from, int n, int paying) {
            int over = 0;
            for (int night = 0; night < n; night++) {
                int set = sets[from + night];
                int may = bank.comeBy[night] & ~over & paying;
                if ((set & ~may) != 0 || !bank.carries(set)) return night;
                over |= set;
            }
            return NONE;
        }

        int leastWaiting(int paying) {
            int able = 0;
            for (int s = 0; s < bank.shades; s++) {
                if (bank.carries(1 << s)) able |= paying & 1 << s;
            }
            Arrays.fill(waited, FAR);
            waited[0] = 0;
            for (int night = 0; night < NIGHTS; night++) {
                cross(bank.comeBy[night], able);
            }
            int least = FAR;
            for (int over = 0; over < SETS; over++) {
                least = Math.min(least, waited[over]);
            }
            return least;
        }

        // From the fullest set down: who crosses makes a fuller set, so that
        // what is written of this night is not read again on it.
        private void cross(int come, int able) {
            for (int over = SETS - 1; over >= 0; over--) {
                int before = waited[over];
                if (before == FAR) continue;
                waited[over] = FAR;
                int waiting = come & ~over;
                int boarding = waiting & able;
                // An empty boat shortens no waiting: it goes only when nobody can board.
                for (int set = boarding == 0 ? 0 : 1; set <= boarding; set++) {
                    if ((set & ~boarding) != 0 || !bank.carries(set)) continue;
                    int after = before + Integer.bitCount(waiting & ~set);
                    waited[over | set] = Math.min(waited[over | set], after);
                }
            }
        }
    }
}
