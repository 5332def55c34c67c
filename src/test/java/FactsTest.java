import java.util.ArrayList;
import java.util.List;

/**
 * What the first lines of the document say of shares, councils, unions and carriers, looked at without the rules by
 * which the terms count them: orders are gone through one by one, and what must follow from a rule is asked for.
 */
public final class FactsTest {
    private static final int MOST_GONE_THROUGH = 6;
    /** Each size 1 .. 6 divides it. */
    private static final int PARTS_OF_ONE = 60;

    private static long seed = 2026;

    public static void main(String[] args) {
        for (int turn = 0; turn < 40; turn++) {
            int n = 1 + turn % MOST_GONE_THROUGH;
            long[] values = randomValues(n);
            sharesAreAveragesOfOrders(n, values);
            unionsStandTogether(n, values);
            dividendsMakeUpTheGame(n, values);
            carriersAndThoseAlike(n, nearlyAlike(n));
            dualsAndCovers(n, values);
            whatGamesAre(n, turn % 2 == 0 ? values : convex(n));
            whatNoSetCouldBetter(n, values);
            powersAgree(n);
        }
        for (int turn = 0; turn < 20; turn++) {
            nineInACouncil();
            nineByRules();
        }
        sharesOfConvexGamesAreStable();
        Check.end();
    }

    // A generator of its own, so that each run is the same on every machine.
    private static int pick(int bound) {
        seed = seed * 6364136223846793005L + 1442695040888963407L;
        return (int) ((seed >>> 33) % bound);
    }

    private static boolean has(int set, int p) {
        return (set >> p & 1) == 1;
    }

    // ---- games, as a value for each set, the empty one, too

    private static long[] randomValues(int n) {
        long[] values = new long[1 << n];
        for (int set = 1; set < values.length; set++) {
            values[set] = pick(19) - 6;
        }
        return values;
    }

    /** Values that only look at how many of each of two kinds a set has, and never at the last partner. */
    private static long[] nearlyAlike(int n) {
        long[] values = new long[1 << n];
        int kinds = pick(1 << n);
        int useless = pick(2) << (n - 1);
        for (int set = 1; set < values.length; set++) {
            int used = set & ~useless;
            values[set] = 3 * Integer.bitCount(used & kinds) * Integer.bitCount(used) - Integer.bitCount(used & ~kinds);
        }
        return values;
    }

    /** Of dividends that are 0 or more for sets of two and more. */
    private static long[] convex(int n) {
        long[] values = new long[1 << n];
        for (int part = 1; part < values.length; part++) {
            int dividend = Integer.bitCount(part) == 1 ? pick(9) - 4 : pick(4) * pick(2);
            for (int set = 1; set < values.length; set++) {
                values[set] += (set & part) == part ? dividend : 0;
            }
        }
        return values;
    }

    private static PartnerWorth of(int n, long[] values) {
        return Check.of(n, java.util.Arrays.copyOfRange(values, 1, values.length));
    }

    // ---- orders

    /** All orders of these partners. */
    private static List<List<Integer>> orders(List<Integer> partners) {
        List<List<Integer>> found = new ArrayList<>();
        if (partners.isEmpty()) {
            found.add(new ArrayList<>());
        }
        for (Integer first : partners) {
            List<Integer> others = new ArrayList<>(partners);
            others.remove(first);
            for (List<Integer> rest : orders(others)) {
                rest.add(0, first);
                found.add(rest);
            }
        }
        return found;
    }

    private static List<List<Integer>> allOrders(int n) {
        List<Integer> all = new ArrayList<>();
        for (int p = 0; p < n; p++) {
            all.add(p);
        }
        return orders(all);
    }

    private static boolean standTogether(List<Integer> order, int[] unionOf) {
        for (int k = 2; k < order.size(); k++) {
            int union = unionOf[order.get(k)];
            boolean goesOn = unionOf[order.get(k - 1)] == union;
            for (int before = 0; before < k - 1 && !goesOn; before++) {
                if (unionOf[order.get(before)] == union) {
                    return false;
                }
            }
        }
        return true;
    }

    /** What each partner adds, over these orders. */
    private static long[] addedInOrders(int n, long[] values, List<List<Integer>> orders) {
        long[] sums = new long[n];
        for (List<Integer> order : orders) {
            int ahead = 0;
            for (int p : order) {
                sums[p] += values[ahead | 1 << p] - values[ahead];
                ahead |= 1 << p;
            }
        }
        return sums;
    }

    private static void tell(PartnerWorth x, List<Integer> order) {
        long[] longs = new long[order.size()];
        for (int k = 0; k < longs.length; k++) {
            longs[k] = order.get(k);
        }
        Check.tell(x, 3, longs);
    }

    // ---- fractions

    private static long common(long a, long b) {
        return b == 0 ? Math.abs(a) : common(b, a % b);
    }

    private static void same(String what, long above, long below, long wantAbove, long wantBelow) {
        Check.due(what, above * wantBelow, wantAbove * below);
        Check.due(what + ": in lowest terms", common(above, below), 1);
        Check.due(what + ": below 1 or more", below >= 1 ? 1 : 0, 1);
    }

    // ---- facts of games

    private static void sharesAreAveragesOfOrders(int n, long[] values) {
        PartnerWorth x = of(n, values);
        List<List<Integer>> orders = allOrders(n);
        long[] sums = addedInOrders(n, values, orders);
        for (int p = 0; p < n; p++) {
            same("the average of all orders", x.share(0, p, 0), x.share(0, p, 1), sums[p], orders.size());
        }
        List<Integer> one = orders.get(pick(orders.size()));
        tell(x, one);
        long all = 0;
        for (int k = 0; k < n; k++) {
            long added = x.adds(0, 3, 0, k);
            Check.due("adds", added, addedInOrders(n, values, List.of(one))[one.get(k)]);
            all += added;
        }
        Check.due("what all add in an order is the value of all", all, values[(1 << n) - 1]);
    }

    private static void unionsStandTogether(int n, long[] values) {
        PartnerWorth x = of(n, values);
        for (int k = 0; k < n; k++) {
            x.unite(pick(n), pick(n));
        }
        int[] unionOf = new int[n];
        for (int p = 0; p < n; p++) {
            unionOf[p] = x.union(p);
        }
        List<List<Integer>> orders = allOrders(n);
        orders.removeIf(order -> !standTogether(order, unionOf));
        long[] sums = addedInOrders(n, values, orders);
        long[] sumsOfUnions = new long[n];
        for (int p = 0; p < n; p++) {
            same("the average of orders that keep unions", x.owen(0, p, 0), x.owen(0, p, 1), sums[p], orders.size());
            sumsOfUnions[unionOf[p]] += x.owen(0, p, 0) * (720 * 720 / x.owen(0, p, 1));
        }
        unionsShareAhead(n, values, unionOf, sumsOfUnions);
    }

    /** A union has in all what it would have as one partner among unions. */
    private static void unionsShareAhead(int n, long[] values, int[] unionOf, long[] sumsOfUnions) {
        List<Integer> members = new ArrayList<>();
        for (int p = 0; p < n; p++) {
            if (unionOf[p] == p) {
                members.add(p);
            }
        }
        int[] setOf = new int[n];
        for (int p = 0; p < n; p++) {
            setOf[unionOf[p]] |= 1 << p;
        }
        long[] sums = new long[n];
        List<List<Integer>> orders = orders(members);
        for (List<Integer> order : orders) {
            int ahead = 0;
            for (int union : order) {
                sums[union] += values[ahead | setOf[union]] - values[ahead];
                ahead |= setOf[union];
            }
        }
        for (int union : members) {
            Check.due("what a union has ahead", sumsOfUnions[union] * orders.size(), sums[union] * 720 * 720);
        }
    }

    private static void dividendsMakeUpTheGame(int n, long[] values) {
        PartnerWorth x = of(n, values);
        long[] dividends = new long[1 << n];
        for (int set = 0; set < dividends.length; set++) {
            dividends[set] = x.dividend(0, set);
        }
        for (int set = 0; set < dividends.length; set++) {
            long sum = 0;
            for (int part = 0; part < dividends.length; part++) {
                sum += (part & set) == part ? dividends[part] : 0;
            }
            Check.due("dividends within " + set, sum, values[set]);
        }
        for (int p = 0; p < n; p++) {
            long share = 0;
            long power = 0;
            for (int set = 1; set < dividends.length; set++) {
                int size = Integer.bitCount(set);
                share += has(set, p) ? dividends[set] * (PARTS_OF_ONE / size) : 0;
                power += has(set, p) ? dividends[set] << (n - size) : 0;
            }
            same("dividends shared alike", x.share(0, p, 0), x.share(0, p, 1), share, PARTS_OF_ONE);
            Check.due("power by dividends", x.power(0, p), power);
        }
    }

    private static void carriersAndThoseAlike(int n, long[] values) {
        PartnerWorth x = of(n, values);
        int carrier = x.carrier(0);
        x.copy(1, 0);
        Check.due("a carrier has all that counts", x.mask(1, carrier), 0);
        for (int p = 0; p < n; p++) {
            x.copy(1, 0);
            boolean counts = x.mask(1, carrier & ~(1 << p)) != 0;
            Check.due("nobody of a carrier can be left out", counts ? 1 : 0, carrier >> p & 1);
            x.copy(1, 0);
            Check.due("one who adds nothing", x.without(1, p) == 0 ? 1 : 0, x.kind(0, 0) >> p & 1);
            Check.due("one of no use adds nothing", x.kind(1, 0) >> p & 1, 1);
            x.copy(1, 0);
            x.unanimous(1, 1 << p, -x.valueOf(0, 1 << p));
            Check.due("one who adds just its own", x.kind(1, 0) >> p & 1, x.kind(0, 1) >> p & 1);
            for (int q = 0; q < n; q++) {
                x.copy(1, 0);
                Check.due("two alike", x.swap(1, p, q) == 0 ? 1 : 0, x.alike(0, p) >> q & 1);
            }
        }
        if (n > 1) {
            x.copy(1, 0);
            x.join(1, 0, n - 1);
            Check.due("who goes along adds nothing", x.kind(1, 0) >> (n - 1) & 1, 1);
        }
    }

    private static void dualsAndCovers(int n, long[] values) {
        PartnerWorth x = of(n, values);
        x.copy(1, 0);
        x.dual(1);
        x.copy(2, 1);
        x.dual(2);
        Check.due("the dual of the dual", x.differ(0, 2), -5);
        for (int p = 0; p < n; p++) {
            Check.due("share by the dual", x.share(1, p, 0), x.share(0, p, 0));
            Check.due("share by the dual", x.share(1, p, 1), x.share(0, p, 1));
        }
        x.copy(2, 0);
        x.cover(2);
        long[] best = new long[1 << n];
        for (int set = 1; set < best.length; set++) {
            best[set] = values[set];
            for (int part = 1; part < set; part++) {
                best[set] = (part & set) == part ? Math.max(best[set], best[part] + best[set ^ part]) : best[set];
            }
            Check.due("the best way to part " + set, x.valueOf(2, set), best[set]);
        }
        Check.due("a cover is additive", x.is(2, 2), 1);
        Check.due("and covers itself", x.cover(2), 0);
    }

    private static void whatGamesAre(int n, long[] values) {
        PartnerWorth x = of(n, values);
        boolean monotone = true;
        boolean convex = true;
        boolean additive = true;
        for (int a = 0; a < values.length; a++) {
            for (int b = 0; b < values.length; b++) {
                boolean within = (a & b) == a;
                monotone &= !within || values[a] <= values[b];
                additive &= (a & b) != 0 || values[a] + values[b] <= values[a | b];
                for (int p = 0; p < n; p++) {
                    boolean more = values[a | 1 << p] - values[a] <= values[b | 1 << p] - values[b];
                    convex &= !within || has(b, p) || more;
                }
            }
        }
        Check.due("monotone", x.is(0, 0), monotone ? 1 : 0);
        Check.due("convex: a partner adds more to more", x.is(0, 1), convex ? 1 : 0);
        Check.due("additive", x.is(0, 2), additive ? 1 : 0);
    }

    private static void whatNoSetCouldBetter(int n, long[] values) {
        PartnerWorth x = of(n, values);
        long[] told = new long[n];
        long left = values[values.length - 1];
        for (int p = 0; p < n - 1; p++) {
            told[p] = pick(9) + 1;
            left -= told[p];
        }
        told[n - 1] = left;
        Check.tell(x, 0, told);
        boolean stable = true;
        int worst = -5;
        long most = 0;
        for (int set = 1; set < values.length - 1; set++) {
            long excess = values[set];
            for (int p = 0; p < n; p++) {
                excess -= has(set, p) ? told[p] : 0;
            }
            Check.due("excess of " + set, x.excess(0, 0, 0, set), excess);
            stable &= excess <= 0;
            if (worst < 0 || excess > most) {
                worst = set;
                most = excess;
            }
        }
        Check.due("stable", x.stable(0, 0, 0), stable ? 1 : 0);
        Check.due("worst", x.worst(0, 0, 0), worst);
        x.set(0, 0, told[0] + 1);
        Check.due("more than there is", x.stable(0, 0, 0), 0);
    }

    // ---- facts of councils

    private static void powersAgree(int n) {
        PartnerWorth x = Check.of(n);
        int[] weights = new int[n];
        int sum = 0;
        for (int p = 0; p < n; p++) {
            weights[p] = pick(7);
            sum += weights[p];
        }
        int quota = 1 + pick(sum + 1);
        Check.weigh(x, quota, weights);
        Check.due("sets that win", x.make(0, 0), x.votes(0));
        List<List<Integer>> orders = allOrders(n);
        long[] pivotal = new long[n];
        for (List<Integer> order : orders) {
            int pivot = pivotOf(order, weights, quota);
            if (pivot >= 0) {
                pivotal[pivot]++;
            }
        }
        List<Integer> one = orders.get(pick(orders.size()));
        tell(x, one);
        Check.due("pivot", x.pivot(3, 0), pivotOf(one, weights, quota));
        long held = 0;
        for (int p = 0; p < n; p++) {
            Check.due("both ways of counting agree", x.swings(p, 0), x.swings(p, 1));
            Check.due("swings are the power of the vote", x.swings(p, 0), x.power(0, p));
            same("the average of pivots", x.pivots(p, 0), x.pivots(p, 1), pivotal[p], orders.size());
            same("the share of the vote", x.pivots(p, 0), x.pivots(p, 1), x.share(0, p, 0), x.share(0, p, 1));
            int below = Math.max(1, x.votes(1)) * PARTS_OF_ONE;
            held += x.holder(p, 0) * (below / x.holder(p, 1));
        }
        Check.due("all that is held", held, (long) x.votes(1) * PARTS_OF_ONE);
    }

    private static int pivotOf(List<Integer> order, int[] weights, int quota) {
        int ahead = 0;
        for (int p : order) {
            ahead += weights[p];
            if (ahead >= quota) {
                return p;
            }
        }
        return -5;
    }

    private static void nineInACouncil() {
        PartnerWorth x = Check.of(9);
        int[] weights = new int[9];
        int sum = 0;
        for (int p = 0; p < 9; p++) {
            weights[p] = pick(3) == 0 ? 1000 - pick(3) : pick(1001);
            sum += weights[p];
        }
        Check.weigh(x, 1 + pick(sum + 1), weights);
        Check.due("weights", x.told(7), sum);
        Check.due("sets that win", x.make(0, 0), x.votes(0));
        for (int p = 0; p < 9; p++) {
            Check.due("both ways of counting agree", x.swings(p, 0), x.swings(p, 1));
            Check.due("swings are the power of the vote", x.swings(p, 0), x.power(0, p));
            same("the share of the vote", x.pivots(p, 0), x.pivots(p, 1), x.share(0, p, 0), x.share(0, p, 1));
        }
    }

    /** Edges are halved, weights kept; claims are the dual of the lesser of estate and weights. */
    private static void nineByRules() {
        PartnerWorth x = Check.of(9);
        long[] worths = new long[9];
        int sum = 0;
        for (int p = 0; p < 9; p++) {
            int other = (p + 1 + pick(8)) % 9;
            int worth = pick(200) - 100;
            long had = x.worth(p, other);
            long before = had == PartnerWorth.NO ? 0 : had;
            x.edge(other, p, worth);
            worths[p] += worth - before;
            worths[other] += worth - before;
            int weight = pick(1001);
            x.weight(p, weight);
            sum += weight;
        }
        x.make(0, 2);
        x.make(1, 1);
        for (int p = 0; p < 9; p++) {
            same("half of each edge", x.share(0, p, 0), x.share(0, p, 1), worths[p], 2);
            same("the weight", x.share(1, p, 0), x.share(1, p, 1), x.told(10 + p), 1);
        }
        int estate = pick(sum + 1);
        x.quota(1, estate);
        x.make(2, 4);
        x.dual(2);
        for (int k = 0; k < 100; k++) {
            int set = pick(512);
            Check.due("the dual of claims", x.valueOf(2, set), Math.min(estate, x.valueOf(1, set)));
        }
    }

    private static void sharesOfConvexGamesAreStable() {
        for (int turn = 0; turn < 30; turn++) {
            PartnerWorth x = of(4, convex(4));
            x.times(0, 24);
            x.row(0, 6);
            Check.due("whole shares are laid", x.lay(0, 2, 0), 4);
            Check.due("convex", x.is(0, 1), 1);
            Check.due("the shares are stable", x.stable(0, 0, 2), 1);
            Check.due("no set could better", x.excess(0, 0, 2, x.worst(0, 0, 2)) <= 0 ? 1 : 0, 1);
        }
    }
}
