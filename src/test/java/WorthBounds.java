/** Sentences of the terms, part 2: shares, powers, kinds, told orders and told shares. */
final class WorthBounds extends Bound {
    static void all() {
        share();
        shareBeyond();
        power();
        owen();
        owenBeyond();
        dividend();
        swings();
        pivots();
        nullAndDummy();
        alikeAndCarrier();
        veto();
        monotone();
        convex();
        additive();
        toldOrder();
        toldShares();
        stable();
        stableInOrder();
        excess();
        worst();
    }

    /** Both parts of a fraction that a call answers. */
    private static void fraction(String call, long above, long below) {
        leaves(call + ", 0)", above);
        leaves(call + ", 1)", below);
    }

    private static void share() {
        term(29, "SHARE of a PARTNER: over all SETS without it, VALUE with it less VALUE without it, times"
            + " s! (n - s - 1)! (s: how many that SET has), added up (SETS by numbers), by n!;");
        start(1, 7);
        fraction("share(0, 0", 7, 1);
        start(9);
        given("value(0, 1, 9)");
        fraction("share(0, 0", 1, 1);
        fraction("share(0, 8", -1, 8);
        start(9);
        given("value(0, 511, 9)");
        fraction("share(0, 0", 1, 1);
        fraction("share(0, 8", 1, 1);
        start(3, EXAMPLE);
        fraction("share(0, 0", 16, 3);
        fraction("share(0, 2", 47, 6);
        term(29, "a fraction in lowest terms, below 1 or more.");
        fraction("share(1, 0", 0, 1);
        given("times(0, -1)");
        fraction("share(0, 0", -16, 3);
        given("times(0, 3)");
        fraction("share(0, 0", -16, 1);
        fraction("share(0, 1", -41, 2);
        start(9);
        given("value(0, 511, 1)");
        fraction("share(0, 4", 1, 9);
        given("value(0, 511, -3)");
        fraction("share(0, 4", -1, 3);
    }

    private static void shareBeyond() {
        term(29, "added up (SETS by numbers)");
        startLarge(2, 4, -2, 1);
        fraction("share(0, 0", 7 * UNIT / 2, 1);
        startLarge(2, 4, -3, 1);
        fraction("share(0, 0", NO, NO);
        startLarge(2, -4, 3, -1);
        fraction("share(0, 0", Long.MIN_VALUE / 2, 1);
        startLarge(2, -4, 3, -2);
        fraction("share(0, 0", NO, NO);
        startLarge(3, 2, 0, 4, 0, -4, 0, 0);
        fraction("share(0, 0", NO, NO);
        given("swap(0, 1, 2)");
        fraction("share(0, 0", 2 * UNIT, 3);
        startLarge(3, 4, 0, 0, 0, 0, 0, 0);
        fraction("share(0, 0", NO, NO);
        given("times(0, -1)");
        fraction("share(0, 0", Long.MIN_VALUE / 2, 3);
        startLarge(2, 0, 5, -3);
        fraction("share(0, 0", Long.MIN_VALUE / 2, 1);
        startLarge(2, 0, 5, -4);
        fraction("share(0, 0", NO, NO);
    }

    private static void power() {
        term(30, "POWER: over all SETS without it, VALUE with it less VALUE without it, added up (by numbers).");
        start(1, -7);
        leaves("power(0, 0)", -7);
        leaves("power(1, 0)", 0);
        start(3, EXAMPLE);
        leaves("power(0, 0)", 20);
        leaves("power(0, 2)", 30);
        start(9);
        given("value(0, 511, 6)");
        leaves("power(0, 8)", 6);
        given("value(0, 256, 4)");
        leaves("power(0, 8)", 10);
        startLarge(2, 4, -2, 1);
        leaves("power(0, 0)", 7 * UNIT);
        startLarge(2, 4, -3, 1);
        leaves("power(0, 0)", NO);
        startLarge(2, -4, 3, -2);
        leaves("power(0, 0)", NO);
        startLarge(3, 4, 0, 4, 0, -4, 0, 0);
        leaves("power(0, 0)", NO);
        given("swap(0, 1, 2)");
        leaves("power(0, 0)", 4 * UNIT);
        startLarge(2, 0, 5, -4);
        leaves("power(0, 0)", NO);
    }

    private static void owen() {
        term(31, "OWEN's SHARE (of unions): over all SETS without it that have each other UNION whole or not at all,"
            + " VALUE with it less VALUE without it, times r! (m - r - 1)! t! (b - t - 1)! (m UNIONS, r others whole in"
            + " it; b PARTNERS of its own UNION, t of them in it), added up (by numbers), by m! b!; a fraction"
            + " likewise.");
        start(1, 7);
        fraction("owen(0, 0", 7, 1);
        start(3, EXAMPLE);
        fraction("owen(0, 0", 16, 3);
        fraction("owen(0, 1", 41, 6);
        given("unite(1, 2)");
        fraction("owen(0, 0", 6, 1);
        fraction("owen(0, 1", 13, 2);
        fraction("owen(0, 2", 15, 2);
        fraction("owen(1, 2", 0, 1);
        given("value(0, 3, 100)", "value(0, 5, -100)");
        fraction("owen(0, 0", 6, 1);
        given("value(0, 3, 6)", "value(0, 5, 7)", "unite(0, 1)");
        fraction("owen(0, 0", 16, 3);
        fraction("owen(0, 1", 41, 6);
        fraction("owen(0, 2", 47, 6);
        start(9);
        given("value(0, 511, -9)");
        fraction("owen(0, 8", -1, 1);
        for (int p = 1; p < 9; p++) {
            given("unite(" + p + ", 0)");
        }
        fraction("owen(0, 8", -1, 1);
        given("unite(8, 8)");
        fraction("owen(0, 8", -9, 2);
        fraction("owen(0, 0", -9, 16);
    }

    private static void owenBeyond() {
        term(31, "added up (by numbers), by m! b!; a fraction likewise.");
        startLarge(3, 2, 0, 4, 0, -4, 0, 0);
        fraction("owen(0, 0", NO, NO);
        given("swap(0, 1, 2)");
        fraction("owen(0, 0", 2 * UNIT, 3);
        startLarge(2, 4, -2, 1);
        fraction("owen(0, 0", 7 * UNIT / 2, 1);
        startLarge(2, 4, -3, 1);
        fraction("owen(0, 0", NO, NO);
        given("unite(0, 1)");
        fraction("owen(0, 0", NO, NO);
        startLarge(3, 4, 0, 0, 0, 0, 0, 0);
        fraction("owen(0, 0", NO, NO);
        given("unite(1, 2)");
        fraction("owen(0, 0", 2 * UNIT, 1);
        startLarge(3, 1, 5, 0, -5, 0, 0, 0);
        fraction("owen(0, 1", NO, NO);
        given("unite(1, 2)");
        fraction("owen(0, 0", UNIT / 2, 1);
        startLarge(2, 0, 5, -4);
        fraction("owen(0, 0", NO, NO);
    }

    private static void dividend() {
        term(32, "DIVIDEND of a SET: its VALUE less the DIVIDENDS of all SETS in it but itself, one by one, by numbers"
            + " (of the empty one 0).");
        start(3, EXAMPLE);
        long[] due = {0, 1, 2, 3, 3, 3, 4, 4};
        for (int set = 0; set < 8; set++) {
            leaves("dividend(0, " + set + ")", due[set]);
        }
        start(1, -7);
        leaves("dividend(0, 0)", 0);
        leaves("dividend(0, 1)", -7);
        start(9);
        given("value(0, 1, 3)");
        leaves("dividend(0, 511)", 3);
        leaves("dividend(0, 510)", 0);
        leaves("dividend(0, 255)", -3);
        startLarge(2, 4, 3, -1);
        leaves("dividend(0, 3)", Long.MIN_VALUE);
        startLarge(2, 4, 3, -2);
        leaves("dividend(0, 3)", NO);
        leaves("dividend(0, 2)", 3 * UNIT);
        startLarge(2, 4, -4, -5);
        leaves("dividend(0, 3)", NO);
        startLarge(2, -4, 4, -5);
        leaves("dividend(0, 3)", -5 * UNIT);
    }

    private static void bothSwings(int partner, long want) {
        leaves("swings(" + partner + ", 0)", want);
        leaves("swings(" + partner + ", 1)", want);
    }

    private static void swings() {
        term(33, "SWINGS of a VOTE for a PARTNER: how many SETS without it don't WIN, and WIN with it. They may be"
            + " counted SET by SET, or by how many SETS of the others have each sum: both agree.");
        start(3);
        bothSwings(0, 0);
        weigh(4, 2, 1, 1);
        bothSwings(0, 1);
        bothSwings(2, 1);
        given("quota(0, 5)");
        bothSwings(0, 0);
        given("quota(0, 3)");
        bothSwings(0, 3);
        bothSwings(1, 1);
        given("quota(0, 0)");
        bothSwings(0, 0);
        given("quota(0, 1)");
        bothSwings(0, 1);
        given("weight(0, 0)");
        bothSwings(0, 0);
        start(1);
        bothSwings(0, 0);
        given("weight(0, 1)");
        bothSwings(0, 1);
        start(9);
        weigh(9000, 1000, 1000, 1000, 1000, 1000, 1000, 1000, 1000, 1000);
        bothSwings(0, 1);
        bothSwings(8, 1);
        given("quota(0, 9001)");
        bothSwings(8, 0);
        given("quota(0, 4001)");
        bothSwings(8, 70);
        given("quota(0, 4000)");
        bothSwings(8, 56);
        given("weight(0, 0)");
        bothSwings(0, 0);
        bothSwings(8, 70);
    }

    private static void pivots() {
        term(34, "PIVOTS: for each of these SETS s! (n - s - 1)!, added up, by n!.");
        start(1);
        fraction("pivots(0", 0, 1);
        given("weight(0, 1)");
        fraction("pivots(0", 1, 1);
        start(3);
        weigh(3, 2, 1, 1);
        fraction("pivots(0", 2, 3);
        fraction("pivots(1", 1, 6);
        given("quota(0, 0)");
        fraction("pivots(0", 0, 1);
        start(9);
        weigh(9, 1, 1, 1, 1, 1, 1, 1, 1, 1);
        fraction("pivots(8", 1, 9);
        weigh(1, 0, 0, 0, 0, 0, 0, 0, 0, 1);
        fraction("pivots(8", 1, 1);
        fraction("pivots(0", 0, 1);
    }

    private static void nullAndDummy() {
        term(37, "NULL: a PARTNER that adds 0 to each SET without it.");
        start(3);
        leaves("kind(0, 0)", 7);
        given("unanimous(0, 5, 4)");
        leaves("kind(0, 0)", 2);
        given("value(0, 7, 5)");
        leaves("kind(0, 0)", 0);
        start(2);
        least(0, 2);
        leaves("kind(0, 0)", 0);
        given("join(0, 1, 0)");
        holds(0, 0, 0, 0, 0);
        term(37, "DUMMY: one that adds its own VALUE alone to each SET without it (exactly; a NULL one, too).");
        start(3, 5, 0, 5, -3, 2, -3, 2);
        leaves("kind(0, 0)", 2);
        leaves("kind(0, 1)", 7);
        given("value(0, 7, 3)");
        leaves("kind(0, 1)", 0);
        given("value(0, 7, 2)", "value(0, 5, 3)");
        leaves("kind(0, 1)", 0);
        startLarge(2, 4, 3, 7);
        leaves("kind(0, 1)", 3);
        startLarge(2, -8, -4, 4);
        leaves("kind(0, 1)", 0);
        startLarge(2, 6, 5, -5);
        leaves("kind(0, 1)", 0);
    }

    private static void alikeAndCarrier() {
        term(38, "ALIKE: two that add the same to each SET without both.");
        start(2, 5, 5, 0);
        leaves("alike(0, 0)", 3);
        given("value(0, 2, 6)");
        leaves("alike(0, 0)", 1);
        start(3, 1, 1, 5, 1, 6, 6, 9);
        leaves("alike(0, 0)", 3);
        leaves("alike(0, 2)", 4);
        startLarge(3, 4, 4, -4, 0, -4, -4, 1);
        leaves("alike(0, 0)", 3);
        startLarge(3, 4, 4, 0, -8, 4, 4, 1);
        leaves("alike(0, 1)", 3);
        term(39, "CARRIER: the least SET (bits) with VALUE of each SET that of what it has of that: those that are no"
            + " NULL.");
        start(3);
        leaves("carrier(0)", 0);
        given("unanimous(0, 5, 4)");
        leaves("carrier(0)", 5);
        given("unanimous(0, 4, -4)");
        leaves("carrier(0)", 5);
        given("value(0, 7, 1)");
        leaves("carrier(0)", 7);
        start(9);
        given("unanimous(0, 256, 1)");
        leaves("carrier(0)", 256);
        given("mask(0, 255)");
        leaves("carrier(0)", 0);
    }

    private static void veto() {
        term(37, "VETO: VALUE of each SET without it is 0.");
        start(3);
        leaves("kind(0, 2)", 7);
        given("unanimous(0, 7, 1)");
        leaves("kind(0, 2)", 7);
        given("value(0, 3, -1)");
        leaves("kind(0, 2)", 3);
        given("value(0, 1, 1)");
        leaves("kind(0, 2)", 1);
        given("value(0, 2, 1)");
        leaves("kind(0, 2)", 0);
        start(1, 5);
        leaves("kind(0, 2)", 1);
    }

    private static void monotone() {
        term(40, "MONOTONE: no SET has less than one in it.");
        start(3, 2, 2, 2, 2, 2, 2, 2);
        leaves("is(0, 0)", 1);
        given("value(0, 7, 1)");
        leaves("is(0, 0)", 0);
        given("value(0, 7, 2)", "value(0, 1, 3)");
        leaves("is(0, 0)", 0);
        start(1, -1);
        leaves("is(0, 0)", 0);
        given("value(0, 1, 0)");
        leaves("is(0, 0)", 1);
        start(2);
        greatest(0, 3);
        leaves("is(0, 0)", 1);
        start(2);
        least(0, 3);
        leaves("is(0, 0)", 0);
    }

    private static void convex() {
        term(40, "CONVEX: VALUES of any two SETS, added up, are not more than those of what both have and what either"
            + " has.");
        start(1, -5);
        leaves("is(0, 1)", 1);
        start(2, 3, 4, 7);
        leaves("is(0, 1)", 1);
        given("value(0, 3, 6)");
        leaves("is(0, 1)", 0);
        start(3, 0, 5, 5, 0, 0, 5, 5);
        leaves("is(0, 1)", 1);
        given("value(0, 2, 6)");
        leaves("is(0, 1)", 0);
        start(3, 0, 0, 4, 0, 4, 0, 7);
        leaves("is(0, 1)", 0);
        given("value(0, 7, 8)");
        leaves("is(0, 1)", 1);
    }

    private static void additive() {
        term(40, "ADDITIVE: of any two that are apart not more than that of both together.");
        start(1, -5);
        leaves("is(0, 2)", 1);
        start(2, 3, 4, 7);
        leaves("is(0, 2)", 1);
        given("value(0, 3, 6)");
        leaves("is(0, 2)", 0);
        start(3, 0, 0, 4, 0, 4, 0, 7);
        leaves("is(0, 2)", 1);
        start(3, 0, 0, 0, 4, 4, 4, 3);
        leaves("is(0, 2)", 0);
        start(3, 0, 4, 4, 0, 4, 4, 7);
        leaves("is(0, 2)", 0);
        given("value(0, 7, 8)");
        leaves("is(0, 2)", 1);
    }

    private static void toldOrder() {
        term(28, "A TOLD ORDER: the n longs of a ROW from a place on, each PARTNER once among them (else, or if the ROW"
            + " ends ahead, or the place is below 0, it is no such).");
        start(3);
        weigh(1, 1, 1, 1);
        tell(0, 2, 0, 1, 2);
        leaves("pivot(0, 0)", 2);
        leaves("pivot(0, 1)", 0);
        leavesEach("pivot(0, #)", STATE, "2", "3", "4", "-1", "IMIN", "IMAX");
        // Some of these would be 2, if they were cut to an int, or if a bit were moved by them.
        long[] wrongs = {0, 1, 3, -1, -30, 32, 34, Long.MIN_VALUE, Long.MAX_VALUE, 2 + (1L << 32), 2 - (1L << 32)};
        for (long wrong : wrongs) {
            given("set(0, 0, " + wrong + ")");
            leaves("pivot(0, 0)", STATE);
            leaves("adds(0, 0, 0, 0)", NO);
            leaves("pivot(0, 1)", 0);
        }
        tell(2, 1, 2, 1, 0, 2, 0);
        leaves("pivot(2, 0)", STATE);
        leaves("pivot(2, 1)", 2);
        leaves("pivot(2, 2)", 1);
        leaves("pivot(2, 3)", STATE);
        leaves("pivot(1, 0)", STATE);
        given("row(1, 0)");
        leaves("pivot(1, 0)", STATE);
        given("row(1, 2)");
        leaves("pivot(1, 0)", STATE);
        start(1);
        given("weight(0, 1)");
        given("row(3, 20)");
        leaves("pivot(3, 19)", 0);
        leaves("pivot(3, 20)", STATE);
        start(9);
        weigh(1, 1, 1, 1, 1, 1, 1, 1, 1, 1);
        tell(3, 0, 0, 0, 0, 0, 0, 0, 0, 0, 0, 0, 8, 7, 6, 5, 4, 3, 2, 1, 0);
        leaves("pivot(3, 11)", 8);
        leaves("pivot(3, 10)", 0);
        leaves("pivot(3, 9)", STATE);
        leaves("pivot(3, 12)", STATE);
    }

    private static void toldShares() {
        term(42, "TOLD SHARES: the n longs of a ROW from a place on.");
        start(3, EXAMPLE);
        tell(0, 9, 5, 7, 8, 1);
        leaves("stable(0, 0, 1)", 1);
        leaves("stable(0, 0, 0)", 0);
        leaves("stable(0, 0, 2)", 0);
        leaves("excess(0, 0, 2, 4)", 2);
        leavesEach("stable(0, 0, #)", STATE, "3", "4", "5", "-1", "IMIN", "IMAX");
        start(9);
        given("row(0, 20)");
        leaves("stable(0, 0, 11)", 1);
        leaves("stable(0, 0, 12)", STATE);
    }

    private static void stable() {
        term(42, "STABLE: added up they are the VALUE of all, and no SET has a VALUE above theirs, added up");
        start(3, EXAMPLE);
        tell(0, 5, 7, 8);
        leaves("stable(0, 0, 0)", 1);
        tell(0, 5, 7, 9);
        leaves("stable(0, 0, 0)", 0);
        tell(0, 5, 7, 7);
        leaves("stable(0, 0, 0)", 0);
        tell(0, 1, 5, 14);
        leaves("stable(0, 0, 0)", 1);
        tell(0, 0, 6, 14);
        leaves("stable(0, 0, 0)", 0);
        tell(0, 10, 2, 8);
        leaves("stable(0, 0, 0)", 1);
        tell(0, 11, 2, 7);
        leaves("stable(0, 0, 0)", 1);
        tell(0, 12, 2, 6);
        leaves("stable(0, 0, 0)", 0);
        start(1, 4);
        tell(0, 4, 5);
        leaves("stable(0, 0, 0)", 1);
        leaves("stable(0, 0, 1)", 0);
    }

    private static void stableInOrder() {
        term(42, "(looked at in this order, SETS by numbers, PARTNERS by numbers, till one tells that it isn't so).");
        start(3);
        tell(0, Long.MAX_VALUE, 1, -1);
        leaves("stable(0, 0, 0)", OVER);
        tell(0, Long.MAX_VALUE, -1, 1);
        leaves("stable(0, 0, 0)", 0);
        tell(0, 1, Long.MAX_VALUE, -1);
        leaves("stable(0, 0, 0)", OVER);
        start(2, 0, 0, 1);
        tell(0, Long.MAX_VALUE, 1);
        leaves("stable(0, 0, 0)", OVER);
        start(3);
        least(0, 2);
        given("value(0, 7, 5)");
        tell(0, Long.MAX_VALUE, -Long.MAX_VALUE, 5);
        leaves("stable(0, 0, 0)", OVER);
        given("value(0, 3, 1)");
        leaves("stable(0, 0, 0)", 0);
        given("value(0, 3, 0)", "value(0, 6, 9)");
        leaves("stable(0, 0, 0)", OVER);
        given("value(0, 7, 4)");
        leaves("stable(0, 0, 0)", 0);
    }

    private static void excess() {
        term(44, "EXCESS of a SET: its VALUE less theirs.");
        start(3, EXAMPLE);
        tell(0, 5, 7, 8);
        leaves("excess(0, 0, 0, 0)", 0);
        leaves("excess(0, 0, 0, 1)", -4);
        leaves("excess(0, 0, 0, 6)", -6);
        leaves("excess(0, 0, 0, 7)", 0);
        tell(0, Long.MAX_VALUE, 1, 2 - Long.MAX_VALUE);
        leaves("excess(0, 0, 0, 1)", 1 - Long.MAX_VALUE);
        leaves("excess(0, 0, 0, 3)", NO);
        leaves("excess(0, 0, 0, 7)", NO);
        leaves("excess(0, 0, 0, 5)", 5);
        leaves("excess(0, 0, 0, 4)", NO);
        tell(0, 0, 0, 4 - Long.MAX_VALUE);
        leaves("excess(0, 0, 0, 4)", Long.MAX_VALUE - 1);
        leaves("excess(0, 0, 0, 5)", NO);
        given("set(0, 2, MIN)");
        leaves("excess(0, 0, 0, 4)", NO);
    }

    private static void worst() {
        term(43, "WORST: the SET (not empty, not all) with the greatest EXCESS, of several the least (n 1: none).");
        start(3, EXAMPLE);
        tell(0, 9, 9, 9);
        leaves("worst(0, 0, 0)", 4);
        tell(0, 5, 7, 8);
        leaves("worst(0, 0, 0)", 1);
        tell(0, 0, 0, 0);
        leaves("worst(0, 0, 0)", 6);
        tell(0, 2, 4, 14);
        leaves("worst(0, 0, 0)", 3);
        tell(0, 3, 4, 8);
        leaves("worst(0, 0, 0)", 3);
        given("value(0, 3, 5)");
        leaves("worst(0, 0, 0)", 1);
        given("value(0, 7, 1000)");
        leaves("worst(0, 0, 0)", 1);
        start(2, 5, 5, 100);
        tell(0, 0, 0);
        leaves("worst(0, 0, 0)", 1);
        given("value(0, 2, 6)");
        leaves("worst(0, 0, 0)", 2);
        tell(0, 1000, 1000);
        leaves("worst(0, 0, 0)", 2);
        start(2);
        least(0, 1);
        given("value(3, 2, -1)");
        doubled(3, 63);
        given("add(0, 3)");
        tell(0, 0, 0);
        leaves("worst(0, 0, 0)", 1);
        start(1, 5);
        tell(0, 0);
        leaves("worst(0, 0, 0)", NO_SUCH);
    }
}
