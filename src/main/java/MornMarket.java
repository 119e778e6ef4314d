import java.util.Arrays;

/** A market for mornings. What each call answers is told, promise by promise, in ../shared/DOC.md. */
public final class MornMarket {
    public static final int UNKNOWN = -1, OUTSIDE = -2, STATE = -3, FULL = -4, NONE = -9;
    public static final long LOST = Long.MIN_VALUE;

    private static final int NO_FAULT = 0, NULL_FAULT = 1, CAST_FAULT = 2, INDEX_FAULT = 3, SIZE_FAULT = 4;
    private static final int FAULTS_BEGIN = -10, PLACES_BEGIN = -100;

    private static final int PEOPLE_AT_MOST = 4, MORNINGS_AT_MOST = 6, SETS_OF_MORNINGS = 64;
    private static final int NEVER = -1, LAST_DAY = 99, NIGHTS_AT_MOST = 9, DIGIT_AT_MOST = 9;
    private static final int PENCE_AT_MOST = 99, JOY_AT_MOST = 99, DEBT_AT_MOST = 999;
    private static final int CLEAR = 0, FROST = 1, PAINTED = 2;

    private static final int SHEETS = 4, CELLS_AT_MOST = 60, NOTHING = -1;
    private static final int BYTES = 0, SHORTS = 1, INTS = 2;

    private static final int PAIRS_AT_MOST = 20, OPENS = 8, SLEEPS = 9;
    private static final int DAYS_KEPT_AT_MOST = 3, READINGS_AT_MOST = 8;

    private final Sheet[] sheets = new Sheet[SHEETS];
    private final Market now = new Market();
    private final Market draft = new Market();
    private final TextReader reader = new TextReader();
    private final Keeping keeping = new Keeping();
    private final Readings readings = new Readings();
    private int traceSoFar = 0;
    private int latestFault = NO_FAULT;

    public MornMarket() {
        for (int k = 0; k < sheets.length; k++) {
            sheets[k] = new Sheet();
        }
    }

    // ---- 1 the market

    public int market(int sheet, int lane, int i, int n) {
        latestFault = NO_FAULT;
        Sheet from = sheetAt(sheet);
        if (from == null) return UNKNOWN;
        if (!isLane(lane)) return OUTSIDE;
        if (from.isOfAnotherLane(lane)) return faulted(CAST_FAULT);
        if (!from.hasRow()) return faulted(NULL_FAULT);
        if (n < 0) return faulted(SIZE_FAULT);
        if (!from.hasCells(i, n)) return faulted(INDEX_FAULT);
        // A TEXT with a fault must change nothing, so it is read into the draft.
        int firstFault = reader.firstFaultOf(from, i, n, draft);
        if (firstFault != NONE) return PLACES_BEGIN - firstFault;
        now.becomeLike(draft);
        readings.count = 0;
        return now.mornings;
    }

    public int ofMorning(int m, int what) {
        if (!now.isMorning(m)) return UNKNOWN;
        switch (what) {
            case 0: return now.kind[m];
            case 1: return now.owner[m];
            case 2: return now.taken[m];
            case 3: return now.dew[m];
            case 4: return now.isOpened(m) ? 1 : 0;
            default: return OUTSIDE;
        }
    }

    public int ofPerson(int p, int what) {
        if (!now.isPerson(p)) return UNKNOWN;
        switch (what) {
            case 0: return now.purse[p];
            case 1: return now.joy[p];
            case 2: return Integer.bitCount(now.closedOf(p));
            case 3: return now.openedToday(p) ? 1 : 0;
            default: return OUTSIDE;
        }
    }

    public int fill(int p, int v) {
        if (!now.isPerson(p)) return UNKNOWN;
        if (v < 0 || v > PENCE_AT_MOST) return OUTSIDE;
        int before = now.purse[p];
        now.purse[p] = v;
        return before;
    }

    public int rate(int v) {
        if (v < 1 || v > DIGIT_AT_MOST) return OUTSIDE;
        if (!now.isThere()) return STATE;
        int before = now.dewCosts;
        now.dewCosts = v;
        return before;
    }

    public int fresh(int m, int t) {
        if (!now.isMorning(m)) return UNKNOWN;
        if (t < 0 || t > LAST_DAY) return OUTSIDE;
        return now.freshOn(m, t);
    }

    public int price(int m) {
        if (!now.isMorning(m)) return UNKNOWN;
        return now.priceOf(m);
    }

    // ---- 2 sold, opened

    public int sell(int m, int p) {
        if (!now.isMorning(m) || !now.isPerson(p)) return UNKNOWN;
        if (!now.canBeSold(m, p)) return STATE;
        return now.handOver(m, p);
    }

    public int open(int m) {
        if (!now.isMorning(m)) return UNKNOWN;
        if (now.isOpened(m)) return STATE;
        return now.unseal(m);
    }

    public int sleep(int n) {
        if (n < 0 || n > NIGHTS_AT_MOST) return OUTSIDE;
        if (!now.isThere() || !now.canGoBy(n)) return STATE;
        now.day += n;
        return now.day;
    }

    public int year(int sheet, int lane, int i, int n, int what) {
        latestFault = NO_FAULT;
        Sheet from = sheetAt(sheet);
        if (from == null) return UNKNOWN;
        if (!isLane(lane) || n < 0 || n > PAIRS_AT_MOST || !canBeAskedOfYear(what)) return OUTSIDE;
        if (from.isOfAnotherLane(lane)) return faulted(CAST_FAULT);
        if (!from.hasRow()) return faulted(NULL_FAULT);
        if (!from.hasCells(i, 2 * n)) return faulted(INDEX_FAULT);
        if (!now.isThere()) return STATE;
        int refusal = refusalOfPairs(from, i, n);
        if (refusal != 0) return refusal;
        draft.becomeLike(now);
        draft.forgetJoy();
        int firstWrong = firstWrongIn(from, i, n);
        if (what == 1) return firstWrong;
        if (firstWrong != NONE) return PLACES_BEGIN - firstWrong;
        return behindYear(what);
    }

    // ---- 3 what to do with them

    public int feast(int p) {
        if (!now.isPerson(p)) return UNKNOWN;
        return now.feastWith(p, now.closedOf(p));
    }

    public int keep(int p, int n, int k) {
        if (!now.isPerson(p)) return UNKNOWN;
        if (n < 1 || n > DAYS_KEPT_AT_MOST || k < -1 || k >= MORNINGS_AT_MOST) return OUTSIDE;
        keeping.findBest(now, p, n);
        return k == -1 ? keeping.mostJoy : keeping.dayOf(k);
    }

    public int buy(int p, int v, int what) {
        if (!now.isPerson(p)) return UNKNOWN;
        if (v < 0 || v > JOY_AT_MOST || what < 0 || what > 1) return OUTSIDE;
        int set = setToBuy(p, v);
        return set == NONE || what == 1 ? set : now.priceOfSet(set);
    }

    public int debt(int p, int v, int what) {
        if (!now.isPerson(p)) return UNKNOWN;
        if (v < 0 || v > DEBT_AT_MOST || what < 0 || what > 1) return OUTSIDE;
        int set = setToSell(p, v);
        return set == NONE || what == 1 ? set : now.feastWith(p, now.closedOf(p) & ~set);
    }

    public int swap(int what) {
        if (what < 0 || what > 2) return OUTSIDE;
        if (!now.isThere()) return STATE;
        int most = 0;
        int lesser = NONE;
        int greater = NONE;
        for (int a = 0; a < now.mornings; a++) {
            for (int b = a + 1; b < now.mornings; b++) {
                int more = gainOfExchange(a, b);
                if (more > most) {
                    most = more;
                    lesser = a;
                    greater = b;
                }
            }
        }
        if (most == 0) return NONE;
        return what == 0 ? most : what == 1 ? lesser : greater;
    }

    // ---- 4 how fresh they were

    public int reading(int m, int t, int v) {
        if (!now.isMorning(m)) return UNKNOWN;
        if (t < 0 || t > LAST_DAY || v < 0 || v > DIGIT_AT_MOST) return OUTSIDE;
        if (readings.count >= READINGS_AT_MOST) return FULL;
        return readings.append(m, t, v);
    }

    public int back(int k) {
        if (k < 0 || k > readings.count) return OUTSIDE;
        readings.count -= k;
        return readings.count;
    }

    public int dews(int m) {
        if (!now.isMorning(m)) return UNKNOWN;
        int set = 0;
        for (int dew = 0; dew <= DIGIT_AT_MOST; dew++) {
            if (readings.areSoWith(now, m, now.kind[m], now.taken[m], dew)) set |= 1 << dew;
        }
        return set;
    }

    public int kinds(int m) {
        if (!now.isMorning(m)) return UNKNOWN;
        int set = 0;
        for (int kind = CLEAR; kind <= PAINTED; kind++) {
            if (readings.areSoWith(now, m, kind, now.taken[m], now.dew[m])) set |= 1 << kind;
        }
        return set;
    }

    public int takens(int m) {
        if (!now.isMorning(m)) return UNKNOWN;
        int set = 0;
        for (int taken = 0; taken <= DIGIT_AT_MOST; taken++) {
            if (readings.areSoWith(now, m, now.kind[m], taken, now.dew[m])) set |= 1 << taken;
        }
        return set;
    }

    public long odds(int p, int v, int which) {
        if (!now.isPerson(p)) return LOST;
        if (v < 0 || v > JOY_AT_MOST || which < 0 || which > 1) return LOST;
        int theirs = now.closedOf(p);
        int upper = 0;
        int lower = 0;
        for (int unspoilt = 0; unspoilt < SETS_OF_MORNINGS; unspoilt++) {
            if (isWithin(unspoilt, theirs)) {
                lower++;
                if (now.feastWith(p, unspoilt) >= v) upper++;
            }
        }
        // The lower number is a power of two (one 2 for each MORNING), so halving both is all that least terms need.
        for (int twos = 0; twos < MORNINGS_AT_MOST && upper % 2 == 0 && lower % 2 == 0; twos++) {
            upper /= 2;
            lower /= 2;
        }
        return which == 0 ? upper : lower;
    }

    // ---- 5 sheets, parts

    public int sheet(int k, int lane, int n) {
        latestFault = NO_FAULT;
        Sheet at = sheetAt(k);
        if (at == null) return UNKNOWN;
        if (!isLane(lane) || n > CELLS_AT_MOST) return OUTSIDE;
        if (n < 0) return faulted(SIZE_FAULT);
        at.getRow(lane, n);
        return 1;
    }

    public int lose(int k) {
        Sheet at = sheetAt(k);
        if (at == null) return UNKNOWN;
        int had = at.hasRow() ? 1 : 0;
        at.length = NOTHING;
        return had;
    }

    public int put(int k, int i, int v) {
        latestFault = NO_FAULT;
        Sheet at = sheetAt(k);
        if (at == null) return UNKNOWN;
        if (!at.hasRow()) return faulted(NULL_FAULT);
        if (!at.hasCells(i, 1)) return faulted(INDEX_FAULT);
        at.cells[i] = at.cutToLane(v);
        return 1;
    }

    public long cell(int k, int i, int lane) {
        latestFault = NO_FAULT;
        Sheet at = sheetAt(k);
        if (at == null || !isLane(lane)) return LOST;
        if (at.isOfAnotherLane(lane)) return lostBy(CAST_FAULT);
        if (!at.hasRow()) return lostBy(NULL_FAULT);
        if (!at.hasCells(i, 1)) return lostBy(INDEX_FAULT);
        return at.cells[i];
    }

    public int copy(int k, int i, int other, int j, int n) {
        latestFault = NO_FAULT;
        Sheet from = sheetAt(k);
        Sheet to = sheetAt(other);
        if (from == null || to == null) return UNKNOWN;
        if (!from.hasRow() || !to.hasRow()) return faulted(NULL_FAULT);
        if (from.lane != to.lane) return faulted(CAST_FAULT);
        if (!from.hasCells(i, n) || !to.hasCells(j, n)) return faulted(INDEX_FAULT);
        System.arraycopy(from.cells, i, to.cells, j, n);
        return n;
    }

    public int tell(int m) {
        if (!now.isMorning(m)) return UNKNOWN;
        switch (now.kind[m]) {
            case FROST: return toldByFrost(m);
            case PAINTED: return toldByPainted(m);
            default: return toldByClear(m);
        }
    }

    public int crow(int m) {
        if (!now.isMorning(m)) return UNKNOWN;
        return now.kind[m] == PAINTED ? crowedByPainted() : crowedByLent(m);
    }

    public int as(int m, int kind) {
        latestFault = NO_FAULT;
        if (!now.isMorning(m)) return UNKNOWN;
        if (kind < CLEAR || kind > PAINTED) return OUTSIDE;
        // Each kind is one of the kind ahead of it, too, so the order of the numbers decides.
        return now.kind[m] >= kind ? 1 : faulted(CAST_FAULT);
    }

    public int trace() {
        return traceSoFar;
    }

    public int fault() {
        return latestFault;
    }

    public int many(int what) {
        switch (what) {
            case 0: return now.mornings;
            case 1: return now.people;
            case 2: return now.day;
            case 3: return now.dewCosts;
            case 4: return readings.count;
            default: return OUTSIDE;
        }
    }

    // ---- what the calls share

    private Sheet sheetAt(int k) {
        return k >= 0 && k < sheets.length ? sheets[k] : null;
    }

    private int faulted(int fault) {
        latestFault = fault;
        return FAULTS_BEGIN - fault;
    }

    private long lostBy(int fault) {
        latestFault = fault;
        return LOST;
    }

    private static boolean isLane(int lane) {
        return lane >= BYTES && lane <= INTS;
    }

    private static boolean isIn(int set, int number) {
        return ((set >> number) & 1) == 1;
    }

    private static boolean isWithin(int part, int whole) {
        return (part & ~whole) == 0;
    }

    private static int freshBy(int kind, int taken, int dew, int day) {
        if (day < taken) return 0;
        int since = day - taken;
        int left = dew - (kind == FROST ? since / 3 : since);
        if (left < 0) return 0;
        return kind == PAINTED ? left / 2 : left;
    }

    // ---- a year

    private static boolean canBeAskedOfYear(int what) {
        return (what >= 0 && what <= 3)
            || (what >= 10 && what < 10 + PEOPLE_AT_MOST)
            || (what >= 20 && what < 20 + PEOPLE_AT_MOST)
            || (what >= 30 && what < 30 + MORNINGS_AT_MOST);
    }

    private int refusalOfPairs(Sheet from, int i, int n) {
        for (int pair = 0; pair < n; pair++) {
            int first = from.cells[i + 2 * pair];
            int second = from.cells[i + 2 * pair + 1];
            if (second == SLEEPS) {
                if (first < 0 || first > NIGHTS_AT_MOST) return OUTSIDE;
            } else {
                if (second != OPENS && (second < 0 || second >= PEOPLE_AT_MOST)) return OUTSIDE;
                if (!now.isMorning(first)) return UNKNOWN;
            }
        }
        return 0;
    }

    private int firstWrongIn(Sheet from, int i, int n) {
        for (int pair = 0; pair < n; pair++) {
            if (!draft.acts(from.cells[i + 2 * pair], from.cells[i + 2 * pair + 1])) return pair;
        }
        return NONE;
    }

    private int behindYear(int what) {
        if (what == 0) return draft.day;
        if (what == 2) return draft.opened;
        if (what == 3) return draft.joyOfAll();
        if (what >= 30) return draft.isMorning(what - 30) ? draft.owner[what - 30] : NONE;
        if (what >= 20) return draft.isPerson(what - 20) ? draft.joy[what - 20] : NONE;
        return draft.isPerson(what - 10) ? draft.purse[what - 10] : NONE;
    }

    // ---- what to buy, sell, exchange

    private int setToBuy(int p, int v) {
        int theirs = now.closedOf(p);
        int others = now.closed() & ~theirs;
        int best = NONE;
        int fewestPence = 0;
        int fewest = 0;
        // Sets come from the least on, so a later one must be better to be taken.
        for (int set = 0; set < SETS_OF_MORNINGS; set++) {
            if (!isWithin(set, others)) continue;
            int pence = now.priceOfSet(set);
            if (pence > now.purse[p] || now.feastWith(p, theirs | set) < v) continue;
            int count = Integer.bitCount(set);
            if (best == NONE || pence < fewestPence || (pence == fewestPence && count < fewest)) {
                best = set;
                fewestPence = pence;
                fewest = count;
            }
        }
        return best;
    }

    private int setToSell(int p, int v) {
        int theirs = now.closedOf(p);
        int best = NONE;
        int mostJoy = 0;
        int fewest = 0;
        for (int set = 0; set < SETS_OF_MORNINGS; set++) {
            if (!isWithin(set, theirs) || now.priceOfSet(set) < v) continue;
            int joy = now.feastWith(p, theirs & ~set);
            int count = Integer.bitCount(set);
            if (best == NONE || joy > mostJoy || (joy == mostJoy && count < fewest)) {
                best = set;
                mostJoy = joy;
                fewest = count;
            }
        }
        return best;
    }

    /** How much more both OWNERS have together; 0 if these two can't be exchanged, or one OWNER would have less. */
    private int gainOfExchange(int a, int b) {
        int p = now.owner[a];
        int q = now.owner[b];
        if (p == q || now.isOpened(a) || now.isOpened(b)) return 0;
        int both = (1 << a) | (1 << b);
        int moreForP = now.feastWith(p, now.closedOf(p) ^ both) - now.feastWith(p, now.closedOf(p));
        int moreForQ = now.feastWith(q, now.closedOf(q) ^ both) - now.feastWith(q, now.closedOf(q));
        return moreForP < 0 || moreForQ < 0 ? 0 : moreForP + moreForQ;
    }

    // ---- bodies that tell and crow

    private void begins(int body) {
        traceSoFar = 31 * traceSoFar + body;
    }

    private int toldByClear(int m) {
        begins(1);
        return now.dew[m];
    }

    private int toldByFrost(int m) {
        begins(2);
        return toldByClear(m) + 100;
    }

    private int toldByPainted(int m) {
        begins(3);
        int byFrost = toldByFrost(m);
        return byFrost + toldByClear(m);
    }

    private int crowedByLent(int m) {
        begins(4);
        return m;
    }

    private int crowedByPainted() {
        begins(5);
        return 70;
    }

    /** A row of cells that is made once and used again, as a run's room is narrow; its length tells whether it is there. */
    private static final class Sheet {
        final int[] cells = new int[CELLS_AT_MOST];
        int length = NOTHING;
        int lane = BYTES;

        void getRow(int newLane, int newLength) {
            lane = newLane;
            length = newLength;
            Arrays.fill(cells, 0);
        }

        boolean hasRow() {
            return length != NOTHING;
        }

        boolean isOfAnotherLane(int asked) {
            return hasRow() && lane != asked;
        }

        boolean hasCells(int i, int n) {
            // A difference, as i + n could wrap.
            return i >= 0 && i <= length && n >= 0 && n <= length - i;
        }

        int cutToLane(int v) {
            if (lane == BYTES) return (byte) v;
            if (lane == SHORTS) return (short) v;
            return v;
        }
    }

    /** How all stands on a DAY; without PEOPLE there is no MARKET. */
    private static final class Market {
        final int[] purse = new int[PEOPLE_AT_MOST];
        final int[] joy = new int[PEOPLE_AT_MOST];
        final int[] openedOn = new int[PEOPLE_AT_MOST];
        final int[] kind = new int[MORNINGS_AT_MOST];
        final int[] owner = new int[MORNINGS_AT_MOST];
        final int[] taken = new int[MORNINGS_AT_MOST];
        final int[] dew = new int[MORNINGS_AT_MOST];
        int dewCosts = 0;
        int day = 0;
        int people = 0;
        int mornings = 0;
        int opened = 0;

        void beginAnew() {
            forgetJoy();
            Arrays.fill(openedOn, NEVER);
            dewCosts = 0;
            day = 0;
            people = 0;
            mornings = 0;
            opened = 0;
        }

        void becomeLike(Market other) {
            System.arraycopy(other.purse, 0, purse, 0, PEOPLE_AT_MOST);
            System.arraycopy(other.joy, 0, joy, 0, PEOPLE_AT_MOST);
            System.arraycopy(other.openedOn, 0, openedOn, 0, PEOPLE_AT_MOST);
            System.arraycopy(other.kind, 0, kind, 0, MORNINGS_AT_MOST);
            System.arraycopy(other.owner, 0, owner, 0, MORNINGS_AT_MOST);
            System.arraycopy(other.taken, 0, taken, 0, MORNINGS_AT_MOST);
            System.arraycopy(other.dew, 0, dew, 0, MORNINGS_AT_MOST);
            dewCosts = other.dewCosts;
            day = other.day;
            people = other.people;
            mornings = other.mornings;
            opened = other.opened;
        }

        void forgetJoy() {
            Arrays.fill(joy, 0);
        }

        boolean isThere() {
            return people > 0;
        }

        boolean isPerson(int p) {
            return p >= 0 && p < people;
        }

        boolean isMorning(int m) {
            return m >= 0 && m < mornings;
        }

        boolean isOpened(int m) {
            return isIn(opened, m);
        }

        boolean openedToday(int p) {
            return openedOn[p] == day;
        }

        int closed() {
            return ((1 << mornings) - 1) & ~opened;
        }

        int closedOf(int p) {
            int set = 0;
            for (int m = 0; m < mornings; m++) {
                if (owner[m] == p && !isOpened(m)) set |= 1 << m;
            }
            return set;
        }

        int freshOn(int m, int onDay) {
            return freshBy(kind[m], taken[m], dew[m], onDay);
        }

        int priceOf(int m) {
            return dewCosts * freshOn(m, day);
        }

        int priceOfSet(int set) {
            int pence = 0;
            for (int m = 0; m < mornings; m++) {
                if (isIn(set, m)) pence += priceOf(m);
            }
            return pence;
        }

        int joyOfAll() {
            int sum = 0;
            for (int p = 0; p < people; p++) {
                sum += joy[p];
            }
            return sum;
        }

        /** JOY by a set that is OPENED on a DAY, the FRESHEST first, which alone is not halved (if it is the first of that DAY). */
        int joyOfSet(int set, int onDay, boolean openedAhead) {
            int halves = 0;
            int freshest = 0;
            for (int m = 0; m < mornings; m++) {
                if (isIn(set, m)) {
                    int fresh = freshOn(m, onDay);
                    halves += fresh / 2;
                    if (fresh > freshest) freshest = fresh;
                }
            }
            return openedAhead ? halves : halves - freshest / 2 + freshest;
        }

        int feastWith(int p, int set) {
            return joyOfSet(set, day, openedToday(p));
        }

        boolean canGoBy(int days) {
            return day + days <= LAST_DAY;
        }

        boolean canBeSold(int m, int p) {
            return isPerson(p) && !isOpened(m) && owner[m] != p && priceOf(m) <= purse[p];
        }

        int handOver(int m, int p) {
            int pence = priceOf(m);
            purse[p] -= pence;
            purse[owner[m]] += pence;
            owner[m] = p;
            return pence;
        }

        int unseal(int m) {
            int p = owner[m];
            int fresh = freshOn(m, day);
            int gained = openedToday(p) ? fresh / 2 : fresh;
            joy[p] += gained;
            openedOn[p] = day;
            opened |= 1 << m;
            return gained;
        }

        /** Does what a pair of a YEAR tells; false (and nothing is done) if that can't be. */
        boolean acts(int first, int second) {
            if (second == SLEEPS) {
                if (!canGoBy(first)) return false;
                day += first;
            } else if (second == OPENS) {
                if (isOpened(first)) return false;
                unseal(first);
            } else {
                if (!canBeSold(first, second)) return false;
                handOver(first, second);
            }
            return true;
        }
    }

    /** Reads a TEXT code by code; where a code is not taken, the place stays at it. */
    private static final class TextReader {
        final int[] codes = new int[CELLS_AT_MOST];
        int count = 0;
        int place = 0;
        int latest = 0;

        /** The FIRST FAULT, or NONE: then all that the TEXT tells stands in the market. */
        int firstFaultOf(Sheet from, int i, int n, Market into) {
            System.arraycopy(from.cells, i, codes, 0, n);
            count = n;
            place = 0;
            into.beginAnew();
            if (!takes('m', 'm') || !takes('1', '9')) return place;
            into.dewCosts = latest - '0';
            for (int p = 0; p < PEOPLE_AT_MOST && takes(',', ','); p++) {
                if (!takesPerson(into, p)) return place;
            }
            if (into.people == 0) return place;
            for (int m = 0; m < MORNINGS_AT_MOST && takes(';', ';'); m++) {
                if (!takesMorning(into, m)) return place;
            }
            return into.mornings > 0 && place == count ? NONE : place;
        }

        boolean takes(int least, int most) {
            if (place >= count || codes[place] < least || codes[place] > most) return false;
            latest = codes[place];
            place++;
            return true;
        }

        boolean takesPerson(Market into, int p) {
            if (!takes('0', '9')) return false;
            int tens = latest - '0';
            if (!takes('0', '9')) return false;
            into.purse[p] = 10 * tens + latest - '0';
            into.people = p + 1;
            return true;
        }

        boolean takesMorning(Market into, int m) {
            if (!takes('c', 'c') && !takes('f', 'f') && !takes('p', 'p')) return false;
            into.kind[m] = latest == 'c' ? CLEAR : latest == 'f' ? FROST : PAINTED;
            if (!takes('0', '0' + into.people - 1)) return false;
            into.owner[m] = latest - '0';
            if (!takes('0', '9')) return false;
            into.taken[m] = latest - '0';
            if (!takes('0', '9')) return false;
            into.dew[m] = latest - '0';
            into.mornings = m + 1;
            return true;
        }
    }

    /**
     * KEEP. That a MORNING is not OPENED at all is never tried: OPENED on a DAY, it makes that DAY's JOY no less,
     * and each DAY comes ahead of not at all, so no such row is the first of the best.
     */
    private static final class Keeping {
        final int[] joyOfDayAndSet = new int[DAYS_KEPT_AT_MOST * SETS_OF_MORNINGS];
        int mostJoy = 0;
        int bestSets = 0;

        /** n is 1 .. 3. */
        void findBest(Market market, int p, int n) {
            int theirs = market.closedOf(p);
            weighDays(market, p, n, theirs);
            int rows = 1;
            for (int m = 0; m < MORNINGS_AT_MOST; m++) {
                if (isIn(theirs, m)) rows *= n;
            }
            mostJoy = NONE;
            for (int row = 0; row < rows; row++) {
                int sets = setsOfDays(row, n, theirs);
                int joy = joyOfDays(sets, n);
                if (joy > mostJoy) {
                    mostJoy = joy;
                    bestSets = sets;
                }
            }
        }

        int dayOf(int m) {
            for (int d = 0; d < DAYS_KEPT_AT_MOST; d++) {
                if (isIn(bestSets, d * MORNINGS_AT_MOST + m)) return d;
            }
            return NONE;
        }

        void weighDays(Market market, int p, int n, int theirs) {
            for (int d = 0; d < n; d++) {
                boolean openedAhead = d == 0 && market.openedToday(p);
                for (int set = 0; set < SETS_OF_MORNINGS; set++) {
                    if (isWithin(set, theirs)) {
                        joyOfDayAndSet[d * SETS_OF_MORNINGS + set] = market.joyOfSet(set, market.day + d, openedAhead);
                    }
                }
            }
        }

        /** The sets of all DAYS side by side; a row's number has the last MORNING's DAY lowest, so rows come in their order. */
        int setsOfDays(int row, int n, int theirs) {
            int sets = 0;
            int rest = row;
            for (int m = MORNINGS_AT_MOST - 1; m >= 0; m--) {
                if (isIn(theirs, m)) {
                    sets |= 1 << ((rest % n) * MORNINGS_AT_MOST + m);
                    rest /= n;
                }
            }
            return sets;
        }

        int joyOfDays(int sets, int n) {
            int joy = 0;
            for (int d = 0; d < n; d++) {
                int set = (sets >> (d * MORNINGS_AT_MOST)) & (SETS_OF_MORNINGS - 1);
                joy += joyOfDayAndSet[d * SETS_OF_MORNINGS + set];
            }
            return joy;
        }
    }

    /** READINGS: on a DAY a MORNING was so FRESH. */
    private static final class Readings {
        final int[] morning = new int[READINGS_AT_MOST];
        final int[] day = new int[READINGS_AT_MOST];
        final int[] fresh = new int[READINGS_AT_MOST];
        int count = 0;

        int append(int m, int t, int v) {
            int number = count;
            morning[number] = m;
            day[number] = t;
            fresh[number] = v;
            count++;
            return number;
        }

        /** Whether all are so, if MORNING m (alone) were of this kind, TAKEN then, with so much DEW. */
        boolean areSoWith(Market market, int m, int kind, int taken, int dew) {
            for (int r = 0; r < count; r++) {
                int was = morning[r] == m
                    ? freshBy(kind, taken, dew, day[r])
                    : market.freshOn(morning[r], day[r]);
                if (was != fresh[r]) return false;
            }
            return true;
        }
    }
}
