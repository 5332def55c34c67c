/** Promises 29 to 36: shares and powers. */
public final class SharesTest {
    private static final long NO = PartnerWorth.NO;
    private static final long UNIT = 1L << 60;

    public static void main(String[] args) {
        promise29();
        promise29Beyond();
        promise29AllOrders();
        promise30();
        promise31();
        promise31Beyond();
        promise32();
        promise32Beyond();
        promise33();
        promise34();
        promise35();
        promise36();
        Check.end();
    }

    /** Both parts of each partner's share. */
    private static long[] shares(PartnerWorth x, int game) {
        int n = x.told(0);
        long[] found = new long[2 * n];
        for (int p = 0; p < n; p++) {
            found[2 * p] = x.share(game, p, 0);
            found[2 * p + 1] = x.share(game, p, 1);
        }
        return found;
    }

    private static long[] owens(PartnerWorth x, int game) {
        int n = x.told(0);
        long[] found = new long[2 * n];
        for (int p = 0; p < n; p++) {
            found[2 * p] = x.owen(game, p, 0);
            found[2 * p + 1] = x.owen(game, p, 1);
        }
        return found;
    }

    private static void promise29() {
        PartnerWorth x = Check.of(3, 1, 2, 6, 3, 7, 9, 20);
        Check.due("shares", shares(x, 0), 16, 3, 41, 6, 47, 6);
        x.times(0, -1);
        Check.due("shares below 0", shares(x, 0), -16, 3, -41, 6, -47, 6);
        Check.due("shares of nothing", shares(x, 1), 0, 1, 0, 1, 0, 1);
        x.times(0, -6);
        Check.due("whole shares", shares(x, 0), 32, 1, 41, 1, 47, 1);
        Check.due("partner 3", x.share(0, 3, 0), NO);
        Check.due("partner -1", x.share(0, -1, 0), NO);
        Check.due("part 2", x.share(0, 0, 2), NO);
        Check.due("part -1", x.share(0, 0, -1), NO);
        Check.due("game 4", x.share(4, 0, 0), NO);
        Check.due("game -1", x.share(-1, 0, 0), NO);
        PartnerWorth y = Check.of(9);
        y.unanimous(0, 511, 1000);
        Check.due("one ninth", y.share(0, 8, 0), 1000);
        Check.due("of nine", y.share(0, 8, 1), 9);
        y.value(1, 1, 1);
        Check.due("one set of nine partners", y.share(1, 0, 0), 1);
        Check.due("one set of nine partners", y.share(1, 0, 1), 9);
        Check.due("of it another loses", y.share(1, 1, 0), -1);
        Check.due("of it another loses", y.share(1, 1, 1), 72);
    }

    private static void promise29Beyond() {
        PartnerWorth x = Check.of(3, 2, 0, 4, 0, -4, 0, 0);
        Check.doubled(x, 0, 60);
        Check.due("a sum on the way is beyond", x.share(0, 0, 0), NO);
        Check.due("so it has no part below either", x.share(0, 0, 1), NO);
        x.swap(0, 1, 2);
        Check.due("in another order it fits", x.share(0, 0, 0), 2 * UNIT);
        Check.due("by", x.share(0, 0, 1), 3);
        PartnerWorth y = Check.of(3, 4, 0, 0, 0, 0, 0, 0);
        Check.doubled(y, 0, 60);
        Check.due("a product is beyond", y.share(0, 0, 0), NO);
        y.times(0, -1);
        Check.due("the least long as a product fits", y.share(0, 0, 0), Long.MIN_VALUE / 2);
        Check.due("by", y.share(0, 0, 1), 3);
        PartnerWorth z = Check.of(2, 0, 5, -5);
        Check.doubled(z, 0, 60);
        Check.due("a difference is beyond", z.share(0, 0, 0), NO);
        Check.due("the other's is not", z.share(0, 1, 0), 0);
        Check.due("the other's is not", z.share(0, 1, 1), 1);
    }

    private static void promise29AllOrders() {
        PartnerWorth x = Check.of(4, 3, -1, 4, 1, -5, 9, 2, 6, 5, -3, 5, 8, -9, 7, 9);
        long[] sums = new long[4];
        int[] order = new int[4];
        allOrders(x, order, 0, 0, sums);
        for (int p = 0; p < 4; p++) {
            Check.due("the average of all orders", sums[p] * x.share(0, p, 1), 24 * x.share(0, p, 0));
        }
    }

    private static void allOrders(PartnerWorth x, int[] order, int depth, int taken, long[] sums) {
        if (depth == 4) {
            Check.tell(x, 0, order[0], order[1], order[2], order[3]);
            for (int k = 0; k < 4; k++) {
                sums[order[k]] += x.adds(0, 0, 0, k);
            }
            return;
        }
        for (int p = 0; p < 4; p++) {
            if ((taken >> p & 1) == 0) {
                order[depth] = p;
                allOrders(x, order, depth + 1, taken | 1 << p, sums);
            }
        }
    }

    private static void promise30() {
        PartnerWorth x = Check.of(3, 1, 2, 6, 3, 7, 9, 20);
        Check.due("power(0, 0)", x.power(0, 0), 20);
        Check.due("power(0, 1)", x.power(0, 1), 26);
        Check.due("power(0, 2)", x.power(0, 2), 30);
        Check.due("power(1, 2)", x.power(1, 2), 0);
        Check.due("partner 3", x.power(0, 3), NO);
        Check.due("partner -1", x.power(0, -1), NO);
        Check.due("game 4", x.power(4, 0), NO);
        Check.due("game -1", x.power(-1, 0), NO);
        PartnerWorth y = Check.of(3, 4, 0, 4, 0, -4, 0, 0);
        Check.doubled(y, 0, 60);
        Check.due("a sum on the way is beyond", y.power(0, 0), NO);
        y.swap(0, 1, 2);
        Check.due("in another order it fits", y.power(0, 0), 4 * UNIT);
        PartnerWorth z = Check.of(2, 0, 5, -5);
        Check.doubled(z, 0, 60);
        Check.due("a difference is beyond", z.power(0, 0), NO);
        Check.due("the other's is not", z.power(0, 1), 0);
    }

    private static void promise31() {
        PartnerWorth x = Check.of(3, 1, 2, 6, 3, 7, 9, 20);
        Check.due("all alone: as the shares", owens(x, 0), 16, 3, 41, 6, 47, 6);
        x.unite(0, 2);
        Check.due("0 and 2 together", owens(x, 0), 5, 1, 15, 2, 15, 2);
        x.unite(1, 2);
        Check.due("all together: as the shares", owens(x, 0), 16, 3, 41, 6, 47, 6);
        x.unite(2, 2);
        x.unite(1, 1);
        Check.due("all gone their ways: as the shares", owens(x, 0), 16, 3, 41, 6, 47, 6);
        PartnerWorth y = Check.of(4);
        y.unite(3, 2);
        Check.weigh(y, 3, 1, 1, 1, 1);
        y.make(0, 0);
        Check.due("majorities of two, a pair and two alone", owens(y, 0), 1, 6, 1, 6, 1, 3, 1, 3);
        PartnerWorth z = Check.of(9);
        for (int p = 1; p < 5; p++) {
            z.unite(p, 0);
        }
        z.value(0, 1, 1);
        Check.due("alone ahead of four friends and four others", z.owen(0, 0, 0), 1);
        Check.due("by", z.owen(0, 0, 1), 25);
        Check.due("no set has just a part of another union", z.owen(0, 5, 0), 0);
        Check.due("partner 3", x.owen(0, 3, 0), NO);
        Check.due("partner -1", x.owen(0, -1, 0), NO);
        Check.due("part 2", x.owen(0, 0, 2), NO);
        Check.due("part -1", x.owen(0, 0, -1), NO);
        Check.due("game 4", x.owen(4, 0, 0), NO);
        Check.due("game -1", x.owen(-1, 0, 0), NO);
    }

    private static void promise31Beyond() {
        PartnerWorth x = Check.of(3, 2, 0, 4, 0, -4, 0, 0);
        Check.doubled(x, 0, 60);
        Check.due("a sum on the way is beyond", x.owen(0, 0, 0), NO);
        Check.due("so it has no part below either", x.owen(0, 0, 1), NO);
        x.unite(1, 2);
        Check.due("sets that don't count aren't looked at", x.owen(0, 0, 0), UNIT);
        PartnerWorth y = Check.of(3, 4, 0, 0, 0, 0, 0, 0);
        Check.doubled(y, 0, 60);
        Check.due("a product is beyond", y.owen(0, 0, 0), NO);
        y.unite(1, 2);
        Check.due("by fewer unions it fits", y.owen(0, 0, 0), 2 * UNIT);
        PartnerWorth z = Check.of(2, 0, 5, -5);
        Check.doubled(z, 0, 60);
        Check.due("a difference is beyond", z.owen(0, 0, 0), NO);
    }

    private static void promise32() {
        PartnerWorth x = Check.of(3, 1, 2, 6, 3, 7, 9, 20);
        long[] due = {0, 1, 2, 3, 3, 3, 4, 4};
        for (int set = 0; set < 8; set++) {
            Check.due("dividend(0, " + set + ")", x.dividend(0, set), due[set]);
        }
        Check.due("set 8", x.dividend(0, 8), NO);
        Check.due("set -1", x.dividend(0, -1), NO);
        Check.due("game 4", x.dividend(4, 1), NO);
        Check.due("game -1", x.dividend(-1, 1), NO);
        PartnerWorth y = Check.of(9);
        y.unanimous(0, 0x155, -77);
        y.unanimous(0, 0x101, 5);
        Check.due("what was told to all", y.dividend(0, 0x155), -77);
        Check.due("what was told to two", y.dividend(0, 0x101), 5);
        Check.due("of all nine", y.dividend(0, 511), 0);
    }

    private static void promise32Beyond() {
        PartnerWorth x = Check.of(3, 4, 0, -4, 0, 0, 0, 0);
        Check.doubled(x, 0, 60);
        Check.due("it just fits", x.dividend(0, 3), -8 * UNIT);
        x.value(0, 2, 1);
        Check.due("beyond", x.dividend(0, 3), NO);
        Check.due("one of those in it is beyond", x.dividend(0, 7), NO);
        Check.due("one without that", x.dividend(0, 5), -4 * UNIT);
        PartnerWorth y = Check.of(2, 4, -4, -5);
        Check.doubled(y, 0, 60);
        Check.due("one by one: the first is beyond", y.dividend(0, 3), NO);
        y.swap(0, 0, 1);
        Check.due("the other way round it fits", y.dividend(0, 3), -5 * UNIT);
    }

    private static void bothSwings(PartnerWorth x, int partner, int want) {
        Check.due("swings(" + partner + ", 0)", x.swings(partner, 0), want);
        Check.due("swings(" + partner + ", 1)", x.swings(partner, 1), want);
    }

    private static void promise33() {
        PartnerWorth x = Check.of(3);
        Check.weigh(x, 3, 2, 1, 1);
        bothSwings(x, 0, 3);
        bothSwings(x, 1, 1);
        bothSwings(x, 2, 1);
        x.quota(0, 0);
        bothSwings(x, 0, 0);
        x.quota(0, 4);
        bothSwings(x, 0, 1);
        bothSwings(x, 2, 1);
        x.quota(0, 5);
        bothSwings(x, 0, 0);
        Check.due("partner 3", x.swings(3, 0), -1);
        Check.due("partner -1", x.swings(-1, 1), -1);
        Check.due("how 2", x.swings(0, 2), -1);
        Check.due("how -1", x.swings(0, -1), -1);
        PartnerWorth y = Check.of(9);
        Check.weigh(y, 8500, 1000, 1000, 1000, 1000, 1000, 1000, 1000, 1000, 1000);
        bothSwings(y, 8, 1);
        y.quota(0, 5000);
        bothSwings(y, 8, 70);
        y.weight(0, 0);
        bothSwings(y, 8, 70);
        bothSwings(y, 0, 0);
    }

    private static void promise34() {
        PartnerWorth x = Check.of(3);
        Check.weigh(x, 3, 2, 1, 1);
        Check.due("pivots(0, 0)", x.pivots(0, 0), 2);
        Check.due("pivots(0, 1)", x.pivots(0, 1), 3);
        Check.due("pivots(2, 0)", x.pivots(2, 0), 1);
        Check.due("pivots(2, 1)", x.pivots(2, 1), 6);
        x.weight(2, 0);
        Check.due("pivots(2, 0) of none", x.pivots(2, 0), 0);
        Check.due("pivots(2, 1) of none", x.pivots(2, 1), 1);
        Check.due("partner 3", x.pivots(3, 0), NO);
        Check.due("partner -1", x.pivots(-1, 0), NO);
        Check.due("part 2", x.pivots(0, 2), NO);
        Check.due("part -1", x.pivots(0, -1), NO);
        PartnerWorth y = Check.of(9);
        Check.weigh(y, 5, 1, 1, 1, 1, 1, 1, 1, 1, 1);
        Check.due("nine alike", y.pivots(4, 0), 1);
        Check.due("nine alike", y.pivots(4, 1), 9);
        y.weight(0, 5);
        Check.due("one heavy", y.pivots(0, 0), 5);
        Check.due("one heavy", y.pivots(0, 1), 9);
    }

    private static void promise35() {
        PartnerWorth x = Check.of(3);
        Check.weigh(x, 3, 2, 1, 1);
        Check.due("holder(0, 0)", x.holder(0, 0), 1);
        Check.due("holder(0, 1)", x.holder(0, 1), 2);
        Check.due("holder(1, 0)", x.holder(1, 0), 1);
        Check.due("holder(1, 1)", x.holder(1, 1), 4);
        x.quota(0, 0);
        Check.due("only the empty one: above", x.holder(0, 0), 0);
        Check.due("only the empty one: below", x.holder(0, 1), 1);
        x.quota(0, 5);
        Check.due("none wins: above", x.holder(0, 0), 0);
        Check.due("none wins: below", x.holder(0, 1), 1);
        x.quota(0, 2);
        Check.due("{0} and {1, 2}: above", x.holder(0, 0), 1);
        Check.due("{0} and {1, 2}: below", x.holder(0, 1), 2);
        Check.due("{0} and {1, 2}: above", x.holder(2, 0), 1);
        Check.due("{0} and {1, 2}: below", x.holder(2, 1), 4);
        Check.due("partner 3", x.holder(3, 0), NO);
        Check.due("partner -1", x.holder(-1, 0), NO);
        Check.due("part 2", x.holder(0, 2), NO);
        Check.due("part -1", x.holder(0, -1), NO);
        PartnerWorth y = Check.of(9);
        Check.weigh(y, 7, 1, 1, 1, 1, 1, 1, 1, 1, 1);
        Check.due("sevens of nine: above", y.holder(0, 0), 1);
        Check.due("sevens of nine: below", y.holder(0, 1), 9);
        PartnerWorth z = Check.of(9);
        Check.weigh(z, 8, 8, 1, 1, 1, 1, 1, 1, 1, 1);
        Check.due("one of eight: above", z.holder(1, 0), 1);
        Check.due("one of eight: below", z.holder(1, 1), 16);
    }

    private static void promise36() {
        PartnerWorth x = Check.of(3);
        Check.weigh(x, 3, 2, 1, 1);
        Check.due("votes(0)", x.votes(0), 3);
        Check.due("votes(1)", x.votes(1), 2);
        Check.due("votes(2)", x.votes(2), 3);
        x.quota(0, 0);
        Check.due("votes(0), all win", x.votes(0), 8);
        Check.due("votes(1), all win", x.votes(1), 1);
        Check.due("votes(2), all win", x.votes(2), 0);
        x.quota(0, 5);
        Check.due("votes(0), none wins", x.votes(0), 0);
        Check.due("votes(1), none wins", x.votes(1), 0);
        Check.due("votes(2), none wins", x.votes(2), -5);
        Check.due("votes(3)", x.votes(3), -1);
        Check.due("votes(-1)", x.votes(-1), -1);
        Check.weigh(x, 6, 3, 3, 6);
        Check.due("one alone goes ahead of two", x.votes(2), 4);
        Check.weigh(x, 3, 1, 3, 3);
        Check.due("of two alone the least", x.votes(2), 2);
        Check.due("votes(0)", x.votes(0), 6);
        Check.due("votes(1)", x.votes(1), 2);
        x.weight(0, 0);
        Check.due("one without a weight is not needed", x.votes(1), 2);
    }
}
