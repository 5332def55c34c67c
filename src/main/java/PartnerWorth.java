import java.util.Arrays;

/** What partners are worth, alone and in sets; ../shared/DOC.md tells what each call answers. */
public final class PartnerWorth {
    public static final int NONE = -1, BAD = -2, STATE = -3, FULL = -4, OVER = -6;
    public static final long NO = Long.MIN_VALUE;

    private static final int NO_SUCH = -5;
    private static final int NOTHING = -11;
    private static final int BEYOND = -13;
    private static final int BELOW = -14;
    private static final int FAULTY = -100;

    private static final int MOST_PARTNERS = 9;
    private static final int MOST_SETS = 1 << MOST_PARTNERS;
    private static final int GAMES = 4;
    private static final int ROWS = 4;
    private static final int PLACES = 20;
    private static final int TAPE_BYTES = 120;
    private static final int LARGEST_LETTER = 127;
    /** Nine shares of at most 27 bytes and the blanks between them take 251. */
    private static final int PAPER_BYTES = 256;
    private static final int MOST_FIGURES = 9;
    private static final int LONGEST_NUMBER = 19;
    private static final int LARGEST_WEIGHT = 1000;
    private static final int LARGEST_SUM_OF_OTHERS = (MOST_PARTNERS - 1) * LARGEST_WEIGHT;
    private static final int LARGEST_QUOTA = 9999;
    private static final int LARGEST_WORTH = 9999;
    private static final int LARGEST_FACTOR = 1000;
    private static final long LARGEST_VALUE = 1000000000000L;
    private static final int NO_EDGE = LARGEST_WORTH + 1;
    private static final int EMPTY_ROW = -1;
    /** Each size 1 .. 9 divides it, so that 1 by a size is a whole number of these parts. */
    private static final int PARTS_OF_ONE = 2520;
    /** Far more than a greatest common divisor of two longs can need. */
    private static final int DIVISION_STEPS = 1000;
    private static final int[] FACTORIALS = {1, 1, 2, 6, 24, 120, 720, 5040, 40320, 362880};

    private final Council now = new Council();
    private final Council kept = new Council();
    private boolean imageTaken;
    private final Tape tape = new Tape();
    private final Paper sheet = new Paper();
    private final Rows rows = new Rows();
    private final Exact exact = new Exact();
    private final long[] work = new long[MOST_SETS];
    private final long[] wholes = new long[MOST_PARTNERS];
    private final int[] setsBySum = new int[LARGEST_SUM_OF_OTHERS + 1];

    public PartnerWorth() {
        now.begin(1);
    }

    // ---- what is told

    public int partners(int n) {
        if (n < 1 || n > MOST_PARTNERS) {
            return BAD;
        }
        now.begin(n);
        return n;
    }

    public int value(int game, int set, long v) {
        if (!isGame(game) || !now.hasSet(set) || set == 0) {
            return NONE;
        }
        if (!isToldValue(v)) {
            return BAD;
        }
        now.games[game][set] = v;
        return 1;
    }

    public long valueOf(int game, int set) {
        return isGame(game) && now.hasSet(set) ? now.games[game][set] : NO;
    }

    public int weight(int partner, int w) {
        if (!now.hasPartner(partner)) {
            return NONE;
        }
        if (w < 0 || w > LARGEST_WEIGHT) {
            return BAD;
        }
        int before = now.weights[partner];
        now.weights[partner] = w;
        return before;
    }

    public int quota(int what, int v) {
        if (what != 0 && what != 1) {
            return NONE;
        }
        if (v < 0 || v > LARGEST_QUOTA) {
            return BAD;
        }
        int before = what == 0 ? now.needed : now.estate;
        if (what == 0) {
            now.needed = v;
        } else {
            now.estate = v;
        }
        return before;
    }

    public int edge(int a, int b, int worth) {
        if (!now.hasTwo(a, b)) {
            return NONE;
        }
        if (worth < -LARGEST_WORTH || worth > LARGEST_WORTH) {
            return BAD;
        }
        int place = edgePlace(a, b);
        boolean same = now.edges[place] == worth;
        now.edges[place] = worth;
        return same ? 0 : 1;
    }

    public int cut(int a, int b) {
        if (!now.hasTwo(a, b)) {
            return NONE;
        }
        int place = edgePlace(a, b);
        if (now.edges[place] == NO_EDGE) {
            return STATE;
        }
        now.edges[place] = NO_EDGE;
        return 1;
    }

    public int unite(int partner, int other) {
        if (!now.hasPartner(partner) || !now.hasPartner(other)) {
            return NONE;
        }
        now.bringTogether(partner, other);
        return leastOf(now.unions[partner]);
    }

    public int feed(int letter) {
        if (letter < 1 || letter > LARGEST_LETTER) {
            return BAD;
        }
        return tape.append((byte) letter) ? tape.length : FULL;
    }

    public int clear() {
        int had = tape.length;
        tape.wipe();
        return had;
    }

    public int read(int game) {
        if (!isGame(game)) {
            return NONE;
        }
        System.arraycopy(now.games[game], 0, work, 0, now.sets());
        int answer = tape.readInto(work, now.n);
        tape.wipe();
        if (answer > 0) {
            settle(game);
        }
        return answer;
    }

    // ---- games made and worked on

    public int make(int game, int how) {
        if (!isGame(game) || how < 0 || how > 4) {
            return NONE;
        }
        for (int set = 0; set < now.sets(); set++) {
            work[set] = set == 0 ? 0 : now.madeValue(how, set);
        }
        return settleMade(game);
    }

    public int pairs(int game, int a, int b) {
        if (!isGame(game)) {
            return NONE;
        }
        if (!now.hasSet(a) || !now.hasSet(b)) {
            return BAD;
        }
        for (int set = 0; set < now.sets(); set++) {
            work[set] = Math.min(Integer.bitCount(set & a), Integer.bitCount(set & b));
        }
        return settleMade(game);
    }

    public int copy(int game, int other) {
        if (!isGame(game) || !isGame(other)) {
            return NONE;
        }
        System.arraycopy(now.games[other], 0, work, 0, now.sets());
        settle(game);
        return 1;
    }

    public int add(int game, int other) {
        if (!isGame(game) || !isGame(other)) {
            return NONE;
        }
        exact.begin();
        for (int set = 0; set < now.sets(); set++) {
            work[set] = exact.plus(now.games[game][set], now.games[other][set]);
        }
        return settleUnlessBeyond(game);
    }

    public int times(int game, int c) {
        if (!isGame(game)) {
            return NONE;
        }
        if (c < -LARGEST_FACTOR || c > LARGEST_FACTOR) {
            return BAD;
        }
        exact.begin();
        for (int set = 0; set < now.sets(); set++) {
            work[set] = exact.product(now.games[game][set], c);
        }
        return settleUnlessBeyond(game);
    }

    public int dual(int game) {
        if (!isGame(game)) {
            return NONE;
        }
        long[] values = now.games[game];
        int all = now.everyone();
        exact.begin();
        for (int set = 0; set <= all; set++) {
            work[set] = exact.less(values[all], values[all ^ set]);
        }
        return settleUnlessBeyond(game);
    }

    public int cover(int game) {
        if (!isGame(game)) {
            return NONE;
        }
        exact.begin();
        work[0] = 0;
        for (int set = 1; set < now.sets(); set++) {
            work[set] = bestSplit(now.games[game], set);
        }
        return exact.beyond ? OVER : settle(game);
    }

    public int mask(int game, int set) {
        if (!isGame(game)) {
            return NONE;
        }
        return now.hasSet(set) ? settleParts(game, set) : BAD;
    }

    public int unanimous(int game, int set, long v) {
        if (!isGame(game)) {
            return NONE;
        }
        if (!now.hasSet(set) || set == 0 || !isToldValue(v)) {
            return BAD;
        }
        exact.begin();
        for (int s = 0; s < now.sets(); s++) {
            long had = now.games[game][s];
            work[s] = (s & set) == set ? exact.plus(had, v) : had;
        }
        return settleUnlessBeyond(game);
    }

    public int without(int game, int partner) {
        if (!isGame(game) || !now.hasPartner(partner)) {
            return NONE;
        }
        return settleParts(game, now.everyone() & ~(1 << partner));
    }

    public int join(int game, int partner, int other) {
        if (!isGame(game) || !now.hasTwo(partner, other)) {
            return NONE;
        }
        int both = 1 << partner | 1 << other;
        for (int set = 0; set < now.sets(); set++) {
            boolean led = has(set, partner);
            work[set] = now.games[game][led ? set | both : set & ~both];
        }
        return settle(game);
    }

    public int swap(int game, int a, int b) {
        if (!isGame(game) || !now.hasPartner(a) || !now.hasPartner(b)) {
            return NONE;
        }
        int both = 1 << a | 1 << b;
        for (int set = 0; set < now.sets(); set++) {
            boolean oneOfThem = has(set, a) != has(set, b);
            work[set] = now.games[game][oneOfThem ? set ^ both : set];
        }
        return settle(game);
    }

    public int differ(int game, int other) {
        if (!isGame(game) || !isGame(other)) {
            return NONE;
        }
        for (int set = 0; set < now.sets(); set++) {
            if (now.games[game][set] != now.games[other][set]) {
                return set;
            }
        }
        return NO_SUCH;
    }

    public int unlike(int game) {
        if (!isGame(game)) {
            return NONE;
        }
        int count = 0;
        for (int set = 0; set < now.sets(); set++) {
            if (!isMetBefore(now.games[game], set)) {
                count++;
            }
        }
        return count;
    }

    // ---- told orders

    public long adds(int game, int row, int i, int k) {
        if (!isGame(game) || !isOrder(row, i) || !now.hasPartner(k)) {
            return NO;
        }
        int ahead = 0;
        for (int place = 0; place < k; place++) {
            ahead |= 1 << partnerAt(row, i + place);
        }
        int with = ahead | 1 << partnerAt(row, i + k);
        exact.begin();
        long added = exact.less(now.games[game][with], now.games[game][ahead]);
        return exact.beyond ? NO : added;
    }

    public int pivot(int row, int i) {
        if (!isRow(row)) {
            return NONE;
        }
        if (!isOrder(row, i)) {
            return STATE;
        }
        int ahead = 0;
        for (int place = 0; place < now.n; place++) {
            int partner = partnerAt(row, i + place);
            if (now.isSwing(ahead, partner)) {
                return partner;
            }
            ahead |= 1 << partner;
        }
        return NO_SUCH;
    }

    // ---- shares, powers

    public long share(int game, int partner, int part) {
        if (!isGame(game) || !now.hasPartner(partner) || !isPart(part)) {
            return NO;
        }
        exact.begin();
        long above = shareAbove(now.games[game], partner);
        return exact.beyond ? NO : lowest(above, factorial(now.n), part);
    }

    public long power(int game, int partner) {
        if (!isGame(game) || !now.hasPartner(partner)) {
            return NO;
        }
        long[] values = now.games[game];
        exact.begin();
        long sum = 0;
        for (int set = 0; set < now.sets(); set++) {
            if (!has(set, partner)) {
                sum = exact.plus(sum, addedBy(values, partner, set));
            }
        }
        return exact.beyond ? NO : sum;
    }

    public long owen(int game, int partner, int part) {
        if (!isGame(game) || !now.hasPartner(partner) || !isPart(part)) {
            return NO;
        }
        exact.begin();
        long above = owenAbove(now.games[game], partner);
        int ownSize = Integer.bitCount(now.unions[partner]);
        int below = factorial(now.countUnions()) * factorial(ownSize);
        return exact.beyond ? NO : lowest(above, below, part);
    }

    public long dividend(int game, int set) {
        if (!isGame(game) || !now.hasSet(set)) {
            return NO;
        }
        exact.begin();
        work[0] = 0;
        int part = 0;
        for (int k = 1; k < 1 << Integer.bitCount(set); k++) {
            part = nextWithin(part, set);
            work[part] = lessItsDividends(now.games[game][part], part);
        }
        return exact.beyond ? NO : work[set];
    }

    public int swings(int partner, int how) {
        if (!now.hasPartner(partner) || how != 0 && how != 1) {
            return NONE;
        }
        return how == 0 ? swingsBySets(partner) : swingsBySums(partner);
    }

    public long pivots(int partner, int part) {
        if (!now.hasPartner(partner) || !isPart(part)) {
            return NO;
        }
        long above = 0;
        for (int set = 0; set < now.sets(); set++) {
            if (now.isSwing(set, partner)) {
                above += ordersAround(set);
            }
        }
        return lowest(above, factorial(now.n), part);
    }

    public long holder(int partner, int part) {
        if (!now.hasPartner(partner) || !isPart(part)) {
            return NO;
        }
        int barely = 0;
        long above = 0;
        for (int set = 1; set < now.sets(); set++) {
            if (now.winsBarely(set)) {
                barely++;
                above += has(set, partner) ? PARTS_OF_ONE / Integer.bitCount(set) : 0;
            }
        }
        if (barely == 0) {
            return part;
        }
        return lowest(above, (long) PARTS_OF_ONE * barely, part);
    }

    public int votes(int what) {
        switch (what) {
            case 0:
                return countWinning();
            case 1:
                return countBarelyWinning();
            case 2:
                return smallestWinning();
            default:
                return NONE;
        }
    }

    // ---- what partners and games are

    public int kind(int game, int what) {
        if (!isGame(game) || what < 0 || what > 2) {
            return NONE;
        }
        int found = 0;
        for (int partner = 0; partner < now.n; partner++) {
            if (isOfKind(now.games[game], partner, what)) {
                found |= 1 << partner;
            }
        }
        return found;
    }

    public int alike(int game, int partner) {
        if (!isGame(game) || !now.hasPartner(partner)) {
            return NONE;
        }
        int found = 0;
        for (int other = 0; other < now.n; other++) {
            if (areAlike(now.games[game], partner, other)) {
                found |= 1 << other;
            }
        }
        return found;
    }

    public int carrier(int game) {
        return isGame(game) ? now.everyone() & ~kind(game, 0) : NONE;
    }

    public int is(int game, int what) {
        if (!isGame(game)) {
            return NONE;
        }
        switch (what) {
            case 0:
                return isMonotone(now.games[game]) ? 1 : 0;
            case 1:
                return gainsTogether(now.games[game], false);
            case 2:
                return gainsTogether(now.games[game], true);
            default:
                return NONE;
        }
    }

    public int union(int partner) {
        return now.hasPartner(partner) ? leastOf(now.unions[partner]) : NONE;
    }

    // ---- told shares

    public int stable(int game, int row, int i) {
        if (!isGame(game) || !isRow(row)) {
            return NONE;
        }
        if (!rows.holds(row, i, now.n)) {
            return STATE;
        }
        long[] values = now.games[game];
        exact.begin();
        long all = toldSum(row, i, now.everyone());
        if (exact.beyond) {
            return OVER;
        }
        if (all != values[now.everyone()]) {
            return 0;
        }
        for (int set = 0; set < now.sets(); set++) {
            long theirs = toldSum(row, i, set);
            if (exact.beyond) {
                return OVER;
            }
            if (values[set] > theirs) {
                return 0;
            }
        }
        return 1;
    }

    public int worst(int game, int row, int i) {
        if (!isGame(game) || !isRow(row)) {
            return NONE;
        }
        if (!rows.holds(row, i, now.n)) {
            return STATE;
        }
        exact.begin();
        int found = NO_SUCH;
        long greatest = 0;
        for (int set = 1; set < now.everyone(); set++) {
            long here = exact.less(now.games[game][set], toldSum(row, i, set));
            if (found == NO_SUCH || here > greatest) {
                found = set;
                greatest = here;
            }
        }
        return exact.beyond ? OVER : found;
    }

    public long excess(int game, int row, int i, int set) {
        if (!isGame(game) || !now.hasSet(set) || !rows.holds(row, i, now.n)) {
            return NO;
        }
        exact.begin();
        long above = exact.less(now.games[game][set], toldSum(row, i, set));
        return exact.beyond ? NO : above;
    }

    public int spell(int game) {
        if (!isGame(game)) {
            return NONE;
        }
        if (!fillWholes(game)) {
            return OVER;
        }
        sheet.wipe();
        int all = factorial(now.n);
        for (int partner = 0; partner < now.n; partner++) {
            if (partner > 0) {
                sheet.append(' ');
            }
            sheet.appendFraction(lowest(wholes[partner], all, 0), lowest(wholes[partner], all, 1));
        }
        return sheet.length;
    }

    public int paper(int i) {
        return i >= 0 && i < sheet.length ? sheet.bytes[i] : NONE;
    }

    public int told(int what) {
        switch (what) {
            case 0:
                return now.n;
            case 1:
                return now.needed;
            case 2:
                return now.estate;
            case 3:
                return now.countEdges();
            case 4:
                return now.countUnions();
            case 5:
                return tape.length;
            case 6:
                return sheet.length;
            case 7:
                return now.weigh(now.everyone());
            default:
                return what >= 10 && now.hasPartner(what - 10) ? now.weights[what - 10] : NONE;
        }
    }

    public long worth(int a, int b) {
        if (!now.hasTwo(a, b)) {
            return NO;
        }
        int told = now.edges[edgePlace(a, b)];
        return told == NO_EDGE ? NO : told;
    }

    // ---- rows, the image

    public int row(int row, int n) {
        if (!isRow(row)) {
            return NONE;
        }
        if (n > PLACES) {
            return BAD;
        }
        if (n < 0) {
            return BELOW;
        }
        rows.begin(row, n);
        return 1;
    }

    public int set(int row, int i, long v) {
        if (!isRow(row)) {
            return NONE;
        }
        if (rows.isNothing(row)) {
            return NOTHING;
        }
        if (!rows.holds(row, i, 1)) {
            return BEYOND;
        }
        rows.places[row][i] = v;
        return 1;
    }

    public long get(int row, int i) {
        return rows.holds(row, i, 1) ? rows.places[row][i] : NO;
    }

    public int lay(int row, int i, int game) {
        if (!isRow(row) || !isGame(game)) {
            return NONE;
        }
        if (rows.isNothing(row)) {
            return NOTHING;
        }
        if (!fillWholes(game)) {
            return OVER;
        }
        int all = factorial(now.n);
        for (int partner = 0; partner < now.n; partner++) {
            if (!rows.holds(row, i, partner + 1)) {
                return BEYOND;
            }
            rows.places[row][i + partner] = cutToWhole(wholes[partner], all);
        }
        return now.n;
    }

    public int image() {
        kept.become(now);
        imageTaken = true;
        return now.n;
    }

    public int undo() {
        if (!imageTaken) {
            return STATE;
        }
        now.become(kept);
        return now.n;
    }

    // ---- what numbers are there

    private static boolean isGame(int game) {
        return game >= 0 && game < GAMES;
    }

    private static boolean isRow(int row) {
        return row >= 0 && row < ROWS;
    }

    private static boolean isPart(int part) {
        return part == 0 || part == 1;
    }

    private static boolean isToldValue(long v) {
        return v >= -LARGEST_VALUE && v <= LARGEST_VALUE;
    }

    // ---- sets

    private static boolean has(int set, int partner) {
        return (set >> partner & 1) == 1;
    }

    private static int leastOf(int set) {
        for (int partner = 0; partner < MOST_PARTNERS; partner++) {
            if (has(set, partner)) {
                return partner;
            }
        }
        return NONE;
    }

    /** Of the sets within a whole one, by numbers, the one behind a part. */
    private static int nextWithin(int part, int whole) {
        return part - whole & whole;
    }

    // An edge has no direction, so one place serves both ways of telling it.
    private static int edgePlace(int a, int b) {
        return Math.min(a, b) * MOST_PARTNERS + Math.max(a, b);
    }

    // ---- what is worked out stands in the work row until it is known that nothing is beyond

    private int settle(int game) {
        long[] values = now.games[game];
        int changed = 0;
        for (int set = 0; set < now.sets(); set++) {
            if (values[set] != work[set]) {
                values[set] = work[set];
                changed++;
            }
        }
        return changed;
    }

    private int settleUnlessBeyond(int game) {
        if (exact.beyond) {
            return OVER;
        }
        settle(game);
        return 1;
    }

    private int settleMade(int game) {
        settle(game);
        int filled = 0;
        for (int set = 0; set < now.sets(); set++) {
            if (work[set] != 0) {
                filled++;
            }
        }
        return filled;
    }

    private int settleParts(int game, int within) {
        for (int set = 0; set < now.sets(); set++) {
            work[set] = now.games[game][set & within];
        }
        return settle(game);
    }

    /** Needs what all lesser sets have become in the work row. */
    private long bestSplit(long[] values, int set) {
        int least = 1 << leastOf(set);
        int others = set & ~least;
        long best = values[set];
        int rest = 0;
        for (int k = 1; k < 1 << Integer.bitCount(others); k++) {
            rest = nextWithin(rest, others);
            best = Math.max(best, exact.plus(values[set & ~rest], work[rest]));
        }
        return best;
    }

    private static boolean isMetBefore(long[] values, int set) {
        for (int before = 0; before < set; before++) {
            if (values[before] == values[set]) {
                return true;
            }
        }
        return false;
    }

    // ---- orders

    private boolean isOrder(int row, int i) {
        if (!rows.holds(row, i, now.n)) {
            return false;
        }
        int met = 0;
        for (int place = 0; place < now.n; place++) {
            int partner = partnerAt(row, i + place);
            if (partner == NONE) {
                return false;
            }
            met |= 1 << partner;
        }
        return met == now.everyone();
    }

    private int partnerAt(int row, int place) {
        long told = rows.holds(row, place, 1) ? rows.places[row][place] : NONE;
        return told >= 0 && told < now.n ? (int) told : NONE;
    }

    private static int factorial(int k) {
        return k >= 0 && k < FACTORIALS.length ? FACTORIALS[k] : 1;
    }

    /** In how many orders just this set stands ahead of a given partner that it lacks. */
    private int ordersAround(int set) {
        int size = Integer.bitCount(set);
        return factorial(size) * factorial(now.n - size - 1);
    }

    // ---- shares, as what stands above a known number

    private long addedBy(long[] values, int partner, int set) {
        return exact.less(values[set | 1 << partner], values[set]);
    }

    private long shareAbove(long[] values, int partner) {
        long sum = 0;
        for (int set = 0; set < now.sets(); set++) {
            if (!has(set, partner)) {
                long added = addedBy(values, partner, set);
                sum = exact.plus(sum, exact.product(added, ordersAround(set)));
            }
        }
        return sum;
    }

    private long owenAbove(long[] values, int partner) {
        int own = now.unions[partner];
        int ownSize = Integer.bitCount(own);
        int unions = now.countUnions();
        long sum = 0;
        for (int set = 0; set < now.sets(); set++) {
            int whole = has(set, partner) ? NONE : now.wholeUnions(set & ~own);
            if (whole != NONE) {
                int friends = Integer.bitCount(set & own);
                int orders = factorial(whole) * factorial(unions - whole - 1)
                        * factorial(friends) * factorial(ownSize - friends - 1);
                long added = addedBy(values, partner, set);
                sum = exact.plus(sum, exact.product(added, orders));
            }
        }
        return sum;
    }

    private boolean fillWholes(int game) {
        exact.begin();
        for (int partner = 0; partner < now.n; partner++) {
            wholes[partner] = shareAbove(now.games[game], partner);
        }
        return !exact.beyond;
    }

    /** Needs the dividends of all lesser sets in it in the work row. */
    private long lessItsDividends(long value, int set) {
        long left = value;
        int part = 0;
        for (int k = 1; k < (1 << Integer.bitCount(set)) - 1; k++) {
            part = nextWithin(part, set);
            left = exact.less(left, work[part]);
        }
        return left;
    }

    private static long lowest(long above, long below, int part) {
        long common = commonDivisor(above, below);
        if (common < 1) {
            return NO;
        }
        return part == 0 ? above / common : below / common;
    }

    // The remainder is taken first: what is above may be the one long that has no opposite.
    private static long commonDivisor(long above, long below) {
        if (below < 1) {
            return 1;
        }
        long divisor = below;
        long rest = Math.abs(above % below);
        for (int step = 0; step < DIVISION_STEPS && rest != 0; step++) {
            long next = divisor % rest;
            divisor = rest;
            rest = next;
        }
        return divisor;
    }

    private static long cutToWhole(long above, int below) {
        return below < 1 ? 0 : above / below;
    }

    // ---- councils

    private int swingsBySets(int partner) {
        int count = 0;
        for (int set = 0; set < now.sets(); set++) {
            if (now.isSwing(set, partner)) {
                count++;
            }
        }
        return count;
    }

    private int swingsBySums(int partner) {
        int top = countSetsBySum(partner);
        int own = now.weights[partner];
        int count = 0;
        for (int sum = 0; sum <= top; sum++) {
            if (sum < now.needed && sum + own >= now.needed) {
                count += setsBySum[sum];
            }
        }
        return count;
    }

    /** Counts the sets of all others by what they weigh; answers the greatest sum. */
    private int countSetsBySum(int partner) {
        Arrays.fill(setsBySum, 0);
        setsBySum[0] = 1;
        int top = 0;
        for (int other = 0; other < now.n; other++) {
            if (other != partner) {
                int w = now.weights[other];
                // Downwards, so that no set takes the same one twice.
                for (int sum = top; sum >= 0; sum--) {
                    setsBySum[sum + w] += setsBySum[sum];
                }
                top += w;
            }
        }
        return top;
    }

    private int countWinning() {
        int count = 0;
        for (int set = 0; set < now.sets(); set++) {
            if (now.wins(set)) {
                count++;
            }
        }
        return count;
    }

    private int countBarelyWinning() {
        int count = 0;
        for (int set = 0; set < now.sets(); set++) {
            if (now.winsBarely(set)) {
                count++;
            }
        }
        return count;
    }

    private int smallestWinning() {
        int found = NO_SUCH;
        int size = MOST_PARTNERS + 1;
        for (int set = 0; set < now.sets(); set++) {
            if (Integer.bitCount(set) < size && now.wins(set)) {
                found = set;
                size = Integer.bitCount(set);
            }
        }
        return found;
    }

    // ---- what partners and games are

    private boolean isOfKind(long[] values, int partner, int what) {
        switch (what) {
            case 0:
                return addsAlways(values, partner, 0);
            case 1:
                return addsAlways(values, partner, values[1 << partner]);
            default:
                return hasVeto(values, partner);
        }
    }

    // A difference that no long can tell is none that a value could equal.
    private boolean addsAlways(long[] values, int partner, long amount) {
        for (int set = 0; set < now.sets(); set++) {
            if (!has(set, partner)) {
                exact.begin();
                long added = addedBy(values, partner, set);
                if (exact.beyond || added != amount) {
                    return false;
                }
            }
        }
        return true;
    }

    private boolean hasVeto(long[] values, int partner) {
        for (int set = 0; set < now.sets(); set++) {
            if (!has(set, partner) && values[set] != 0) {
                return false;
            }
        }
        return true;
    }

    // Both are added to the same set, so what they make of it tells whether they add the same.
    private boolean areAlike(long[] values, int a, int b) {
        for (int set = 0; set < now.sets(); set++) {
            if (!has(set, a) && !has(set, b) && values[set | 1 << a] != values[set | 1 << b]) {
                return false;
            }
        }
        return true;
    }

    // Each step down by one partner is enough: the steps of a way down follow one another.
    private boolean isMonotone(long[] values) {
        for (int set = 0; set < now.sets(); set++) {
            for (int partner = 0; partner < now.n; partner++) {
                if (has(set, partner) && values[set] < values[set & ~(1 << partner)]) {
                    return false;
                }
            }
        }
        return true;
    }

    // Of sets that are apart both have nothing, which is worth 0: one rule serves for both asks.
    private int gainsTogether(long[] values, boolean onlyApart) {
        exact.begin();
        for (int a = 0; a < now.sets(); a++) {
            for (int b = a + 1; b < now.sets(); b++) {
                if (!onlyApart || (a & b) == 0) {
                    long alone = exact.plus(values[a], values[b]);
                    long together = exact.plus(values[a & b], values[a | b]);
                    if (exact.beyond) {
                        return OVER;
                    }
                    if (alone > together) {
                        return 0;
                    }
                }
            }
        }
        return 1;
    }

    private long toldSum(int row, int i, int set) {
        long sum = 0;
        for (int partner = 0; partner < now.n; partner++) {
            if (has(set, partner) && rows.holds(row, i, partner + 1)) {
                sum = exact.plus(sum, rows.places[row][i + partner]);
            }
        }
        return sum;
    }

    /** Arithmetic that remembers, from its beginning on, whether anything was beyond a long. */
    private static final class Exact {
        boolean beyond;

        void begin() {
            beyond = false;
        }

        long plus(long a, long b) {
            long sum = a + b;
            if (((a ^ sum) & (b ^ sum)) < 0) {
                beyond = true;
            }
            return sum;
        }

        long less(long a, long b) {
            long difference = a - b;
            if (((a ^ b) & (a ^ difference)) < 0) {
                beyond = true;
            }
            return difference;
        }

        long product(long a, long b) {
            long product = a * b;
            if (b == -1 ? a == Long.MIN_VALUE : b != 0 && product / b != a) {
                beyond = true;
            }
            return product;
        }
    }

    /** All that the image holds. */
    private static final class Council {
        int n;
        int needed;
        int estate;
        final int[] weights = new int[MOST_PARTNERS];
        /** The set of all that stand together with each partner. */
        final int[] unions = new int[MOST_PARTNERS];
        final int[] edges = new int[MOST_PARTNERS * MOST_PARTNERS];
        final long[][] games = new long[GAMES][MOST_SETS];

        void begin(int partners) {
            n = partners;
            needed = 1;
            estate = 0;
            Arrays.fill(weights, 0);
            Arrays.fill(edges, NO_EDGE);
            for (int partner = 0; partner < MOST_PARTNERS; partner++) {
                unions[partner] = 1 << partner;
            }
            for (int game = 0; game < GAMES; game++) {
                Arrays.fill(games[game], 0);
            }
        }

        void become(Council other) {
            n = other.n;
            needed = other.needed;
            estate = other.estate;
            System.arraycopy(other.weights, 0, weights, 0, MOST_PARTNERS);
            System.arraycopy(other.unions, 0, unions, 0, MOST_PARTNERS);
            System.arraycopy(other.edges, 0, edges, 0, edges.length);
            for (int game = 0; game < GAMES; game++) {
                System.arraycopy(other.games[game], 0, games[game], 0, MOST_SETS);
            }
        }

        int sets() {
            return 1 << n;
        }

        int everyone() {
            return (1 << n) - 1;
        }

        boolean hasPartner(int partner) {
            return partner >= 0 && partner < n;
        }

        boolean hasTwo(int a, int b) {
            return hasPartner(a) && hasPartner(b) && a != b;
        }

        boolean hasSet(int set) {
            return set >= 0 && set < sets();
        }

        void bringTogether(int partner, int other) {
            for (int p = 0; p < n; p++) {
                unions[p] &= ~(1 << partner);
            }
            int joined = 1 << partner | (partner == other ? 0 : unions[other]);
            for (int p = 0; p < n; p++) {
                if (has(joined, p)) {
                    unions[p] = joined;
                }
            }
        }

        // Each union is counted at its least partner.
        int countUnions() {
            int count = 0;
            for (int p = 0; p < n; p++) {
                if (leastOf(unions[p]) == p) {
                    count++;
                }
            }
            return count;
        }

        /** How many unions a set has whole; NONE if it has but a part of one. */
        int wholeUnions(int set) {
            int whole = 0;
            for (int p = 0; p < n; p++) {
                if (has(set, p)) {
                    if ((set & unions[p]) != unions[p]) {
                        return NONE;
                    }
                    whole += leastOf(unions[p]) == p ? 1 : 0;
                }
            }
            return whole;
        }

        int countEdges() {
            int count = 0;
            for (int place = 0; place < edges.length; place++) {
                if (edges[place] != NO_EDGE) {
                    count++;
                }
            }
            return count;
        }

        int weigh(int set) {
            int sum = 0;
            for (int p = 0; p < n; p++) {
                sum += has(set, p) ? weights[p] : 0;
            }
            return sum;
        }

        boolean wins(int set) {
            return weigh(set) >= needed;
        }

        boolean isSwing(int set, int partner) {
            return !has(set, partner) && !wins(set) && wins(set | 1 << partner);
        }

        boolean winsBarely(int set) {
            if (!wins(set)) {
                return false;
            }
            for (int p = 0; p < n; p++) {
                if (has(set, p) && wins(set & ~(1 << p))) {
                    return false;
                }
            }
            return true;
        }

        long madeValue(int how, int set) {
            switch (how) {
                case 0:
                    return wins(set) ? 1 : 0;
                case 1:
                    return weigh(set);
                case 2:
                    return edgesWithin(set);
                case 3:
                    return heaviestOf(set);
                default:
                    return Math.max(0, estate - weigh(everyone() & ~set));
            }
        }

        private int edgesWithin(int set) {
            int sum = 0;
            for (int a = 0; a < n; a++) {
                for (int b = a + 1; b < n; b++) {
                    int worth = edges[edgePlace(a, b)];
                    if (has(set, a) && has(set, b) && worth != NO_EDGE) {
                        sum += worth;
                    }
                }
            }
            return sum;
        }

        private int heaviestOf(int set) {
            int greatest = 0;
            for (int p = 0; p < n; p++) {
                if (has(set, p)) {
                    greatest = Math.max(greatest, weights[p]);
                }
            }
            return greatest;
        }
    }

    /** The tape, and the reader of what stands on it. */
    private static final class Tape {
        private final byte[] bytes = new byte[TAPE_BYTES];
        int length;
        private int at;
        private long number;

        boolean append(byte letter) {
            if (length >= bytes.length) {
                return false;
            }
            bytes[length] = letter;
            length++;
            return true;
        }

        void wipe() {
            length = 0;
        }

        /** How many parts were done to the values, or, told by the fault, that it is no such text. */
        int readInto(long[] values, int n) {
            at = 0;
            int parts = 0;
            boolean more = true;
            for (int k = 0; more && k < TAPE_BYTES; k++) {
                if (!readPart(values, n)) {
                    return FAULTY - at;
                }
                parts++;
                more = take(';');
            }
            return at < length ? FAULTY - at : parts;
        }

        private boolean readPart(long[] values, int n) {
            int set = readLetters(n);
            if (set <= 0 || set >= values.length || !take('=') || !readNumber()) {
                return false;
            }
            values[set] = number;
            return true;
        }

        // Only letters behind the latest one can go on; the first that can't ends the set.
        private int readLetters(int n) {
            int set = 0;
            for (int partner = 0; partner < n; partner++) {
                if (take((char) ('a' + partner))) {
                    set |= 1 << partner;
                }
            }
            return set;
        }

        private boolean readNumber() {
            boolean negative = take('-');
            int figures = 0;
            long told = 0;
            for (int k = 0; k < MOST_FIGURES && isFigure(here()); k++) {
                told = told * 10 + (here() - '0');
                at++;
                figures++;
            }
            number = negative ? -told : told;
            return figures > 0;
        }

        private boolean take(char wanted) {
            if (here() != wanted) {
                return false;
            }
            at++;
            return true;
        }

        // No byte of a tape is 0, so that 0 can tell its end.
        private int here() {
            return at >= 0 && at < length ? bytes[at] : 0;
        }

        private static boolean isFigure(int letter) {
            return letter >= '0' && letter <= '9';
        }
    }

    /** The latest text. */
    private static final class Paper {
        final byte[] bytes = new byte[PAPER_BYTES];
        int length;

        void wipe() {
            length = 0;
        }

        void append(char letter) {
            if (length < bytes.length) {
                bytes[length] = (byte) letter;
                length++;
            }
        }

        void appendFraction(long above, long below) {
            appendNumber(above);
            if (below != 1) {
                append('/');
                appendNumber(below);
            }
        }

        // Figures are taken one by one with their sign: the least long has no opposite.
        private void appendNumber(long number) {
            if (number < 0) {
                append('-');
            }
            long unit = 1;
            for (int k = 1; k < LONGEST_NUMBER && number / unit / 10 != 0; k++) {
                unit *= 10;
            }
            for (int k = 0; k < LONGEST_NUMBER && unit > 0; k++) {
                append((char) ('0' + Math.abs(number / unit % 10)));
                unit /= 10;
            }
        }
    }

    /** Rows of longs; one may hold nothing, which is not the same as no places. */
    private static final class Rows {
        final long[][] places = new long[ROWS][PLACES];
        private final int[] sizes = {EMPTY_ROW, EMPTY_ROW, EMPTY_ROW, EMPTY_ROW};

        void begin(int row, int size) {
            if (isRow(row) && size >= 0 && size <= PLACES) {
                sizes[row] = size;
                Arrays.fill(places[row], 0);
            }
        }

        boolean isNothing(int row) {
            return !isRow(row) || sizes[row] == EMPTY_ROW;
        }

        boolean holds(int row, int from, int count) {
            return isRow(row) && from >= 0 && from <= sizes[row] - count;
        }
    }
}
