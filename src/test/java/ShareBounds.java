/** Sentences of promises 29 to 36. */
final class ShareBounds extends Bound {
    static void all() {
        promise29();
        promise30();
        promise31();
        promise32();
        promise33();
        promise34();
        promise35();
        promise35Sets();
        promise36();
    }

    private static void promise29() {
        promise(29, "SHARE: part 0 above, 1 below the line.");
        rich();
        leaves("share(0, 0, 0)", 16);
        leaves("share(0, 0, 1)", 3);
        leaves("share(0, 2, 0)", 47);
        leaves("share(0, 2, 1)", 6);
        leaves("share(1, 1, 0)", -5);
        leaves("share(1, 1, 1)", 3);
        promise(29, "NO: game, partner, part;");
        leavesEach("share(#, 0, 0)", NO, WRONG_GAMES);
        leavesEach("share(0, #, 0)", NO, WRONG_PARTNERS);
        leavesEach("share(0, 0, #)", NO, WRONG_PARTS);
        promise(29, "it would be beyond.");
        startLarge(2, 3, 0, 4);
        leaves("share(0, 0, 0)", 7 * UNIT / 2);
        startLarge(2, 4, 0, 4);
        leaves("share(0, 0, 0)", NO);
        leaves("share(0, 0, 1)", NO);
        leaves("share(0, 1, 0)", 0);
        leaves("share(0, 1, 1)", 1);
        startLarge(2, -4, 0, -4);
        leaves("share(0, 0, 0)", Long.MIN_VALUE / 2);
        leaves("share(0, 0, 1)", 1);
        start(9);
        given("value(0, 1, 1000000000000)");
        doubled(0, 7);
        leaves("share(0, 0, 0)", 128000000000000L);
        leaves("share(0, 0, 1)", 9);
        doubled(0, 1);
        leaves("share(0, 0, 0)", NO);
        leaves("share(0, 1, 0)", -32000000000000L);
        leaves("share(0, 1, 1)", 9);
    }

    private static void promise30() {
        promise(30, "POWER.");
        rich();
        leaves("power(0, 0)", 20);
        leaves("power(0, 1)", 26);
        leaves("power(0, 2)", 30);
        promise(30, "NO: game, partner;");
        leavesEach("power(#, 0)", NO, WRONG_GAMES);
        leavesEach("power(0, #)", NO, WRONG_PARTNERS);
        promise(30, "it would be beyond.");
        startLarge(2, 3, 0, 4);
        leaves("power(0, 0)", 7 * UNIT);
        startLarge(2, 4, 0, 4);
        leaves("power(0, 0)", NO);
        leaves("power(0, 1)", 0);
        startLarge(2, -4, 0, -4);
        leaves("power(0, 0)", Long.MIN_VALUE);
        startLarge(2, -4, 0, -5);
        leaves("power(0, 0)", NO);
    }

    private static void promise31() {
        promise(31, "OWEN's SHARE: part 0 above, 1 below the line.");
        rich();
        leaves("owen(0, 0, 0)", 6);
        leaves("owen(0, 0, 1)", 1);
        leaves("owen(0, 2, 0)", 15);
        leaves("owen(0, 2, 1)", 2);
        promise(31, "NO: game, partner, part;");
        leavesEach("owen(#, 0, 0)", NO, WRONG_GAMES);
        leavesEach("owen(0, #, 0)", NO, WRONG_PARTNERS);
        leavesEach("owen(0, 0, #)", NO, WRONG_PARTS);
        promise(31, "it would be beyond.");
        startLarge(2, 4, 0, 4);
        leaves("owen(0, 0, 0)", NO);
        leaves("owen(0, 0, 1)", NO);
        leaves("owen(0, 1, 0)", 0);
        leaves("owen(0, 1, 1)", 1);
        startLarge(2, -4, 0, -4);
        leaves("owen(0, 0, 0)", Long.MIN_VALUE / 2);
        startLarge(3, 4, 0, 0, 0, 0, 0, 0);
        leaves("owen(0, 0, 0)", NO);
        given("unite(2, 1)");
        leaves("owen(0, 0, 0)", 2 * UNIT);
        leaves("owen(0, 0, 1)", 1);
    }

    private static void promise32() {
        promise(32, "DIVIDEND.");
        rich();
        leaves("dividend(0, 0)", 0);
        leaves("dividend(0, 1)", 1);
        leaves("dividend(0, 7)", 4);
        promise(32, "NO: game, set;");
        leavesEach("dividend(#, 1)", NO, WRONG_GAMES);
        leavesEach("dividend(0, #)", NO, WRONG_SETS);
        promise(32, "one of those in it would be beyond.");
        startLarge(3, 4, 5, 0, 0, 0, 0, 0);
        leaves("dividend(0, 3)", NO);
        leaves("dividend(0, 7)", NO);
        leaves("dividend(0, 5)", -4 * UNIT);
        leaves("dividend(0, 6)", -5 * UNIT);
        startLarge(3, 4, 4, 0, 0, 0, 0, 0);
        leaves("dividend(0, 3)", Long.MIN_VALUE);
        leaves("dividend(0, 7)", NO);
        startLarge(3, 4, 4, 7, 0, 0, 0, 0);
        leaves("dividend(0, 3)", -UNIT);
        leaves("dividend(0, 7)", UNIT);
    }

    private static void promise33() {
        promise(33, "SWINGS, counted SET by SET (how 0), by sums (1).");
        start(3);
        weigh(3, 2, 1, 1);
        leaves("swings(0, 0)", 3);
        leaves("swings(0, 1)", 3);
        leaves("swings(2, 0)", 1);
        leaves("swings(2, 1)", 1);
        given("quota(0, 0)");
        leaves("swings(0, 0)", 0);
        leaves("swings(0, 1)", 0);
        given("quota(0, 9999)");
        leaves("swings(0, 0)", 0);
        leaves("swings(0, 1)", 0);
        start(9);
        weigh(8001, 1000, 1000, 1000, 1000, 1000, 1000, 1000, 1000, 1000);
        leaves("swings(8, 0)", 1);
        leaves("swings(8, 1)", 1);
        given("quota(0, 8000)");
        leaves("swings(0, 0)", 8);
        leaves("swings(0, 1)", 8);
        promise(33, "NONE: partner, how.");
        rich();
        leavesEach("swings(#, 0)", NONE, WRONG_PARTNERS);
        leavesEach("swings(#, 1)", NONE, WRONG_PARTNERS);
        leavesEach("swings(0, #)", NONE, "-1", "2", "IMIN", "IMAX");
    }

    private static void promise34() {
        promise(34, "PIVOTS by n!, in lowest terms: part 0 above, 1 below the line.");
        start(3);
        leaves("pivots(0, 0)", 0);
        leaves("pivots(0, 1)", 1);
        weigh(3, 2, 1, 1);
        leaves("pivots(0, 0)", 2);
        leaves("pivots(0, 1)", 3);
        leaves("pivots(1, 0)", 1);
        leaves("pivots(1, 1)", 6);
        given("weight(0, 3)");
        leaves("pivots(0, 0)", 1);
        leaves("pivots(0, 1)", 1);
        promise(34, "NO: partner, part.");
        rich();
        leavesEach("pivots(#, 0)", NO, WRONG_PARTNERS);
        leavesEach("pivots(0, #)", NO, WRONG_PARTS);
    }

    private static void bothParts(int partner, long above, long below) {
        leaves("holder(" + partner + ", 0)", above);
        leaves("holder(" + partner + ", 1)", below);
    }

    private static void promise35() {
        promise(35, "a fraction in lowest terms: part 0 above, 1 below the line (0 by 1: there are none).");
        start(3);
        weigh(3, 2, 1, 1);
        bothParts(0, 1, 2);
        bothParts(1, 1, 4);
        given("quota(0, 0)");
        bothParts(0, 0, 1);
        given("quota(0, 5)");
        bothParts(0, 0, 1);
        start(1);
        bothParts(0, 0, 1);
        given("weight(0, 1)");
        bothParts(0, 1, 1);
        given("quota(0, 0)");
        bothParts(0, 0, 1);
        promise(35, "NO: partner, part.");
        rich();
        leavesEach("holder(#, 0)", NO, WRONG_PARTNERS);
        leavesEach("holder(0, #)", NO, WRONG_PARTS);
    }

    private static void promise35Sets() {
        promise(35, "Of those SETS that WIN, but not, whichever one of them goes (not the empty one): 1 by how many"
            + " PARTNERS each has, of those with a PARTNER, added up, by how many there are;");
        start(3);
        weigh(3, 3, 3, 1);
        bothParts(0, 1, 2);
        bothParts(2, 0, 1);
        weigh(2, 2, 1, 1);
        bothParts(0, 1, 2);
        bothParts(1, 1, 4);
        bothParts(2, 1, 4);
        start(9);
        weigh(9, 1, 1, 1, 1, 1, 1, 1, 1, 1);
        bothParts(8, 1, 9);
        given("quota(0, 1)");
        bothParts(8, 1, 9);
        given("quota(0, 8)", "weight(0, 0)");
        bothParts(0, 0, 1);
        bothParts(8, 1, 8);
        weigh(7, 1, 1, 1, 1, 1, 1, 1, 1, 7);
        bothParts(8, 1, 9);
        bothParts(0, 1, 9);
    }

    private static void promise36() {
        promise(36, "How many SETS WIN (what 0);");
        start(3);
        leaves("votes(0)", 0);
        weigh(3, 2, 1, 1);
        leaves("votes(0)", 3);
        given("quota(0, 0)");
        leaves("votes(0)", 8);
        promise(36, "of those how many don't, whichever one of them goes (1; the empty one, if it WINS, too);");
        leaves("votes(1)", 1);
        given("quota(0, 3)");
        leaves("votes(1)", 2);
        given("quota(0, 1)");
        leaves("votes(1)", 3);
        given("quota(0, 5)");
        leaves("votes(1)", 0);
        start(2);
        weigh(3, 3, 0);
        leaves("votes(0)", 2);
        leaves("votes(1)", 1);
        promise(36, "of those of as few PARTNERS as can be the least (2; -5: none WINS).");
        start(3);
        leaves("votes(2)", NO_SUCH);
        weigh(0, 2, 1, 2);
        leaves("votes(2)", 0);
        given("quota(0, 2)");
        leaves("votes(2)", 1);
        given("quota(0, 3)");
        leaves("votes(2)", 3);
        given("quota(0, 4)");
        leaves("votes(2)", 5);
        given("quota(0, 5)");
        leaves("votes(2)", 7);
        given("quota(0, 6)");
        leaves("votes(2)", NO_SUCH);
        weigh(6, 3, 3, 6);
        leaves("votes(2)", 4);
        start(1);
        given("weight(0, 1)");
        leaves("votes(2)", 1);
        start(9);
        weigh(9, 1, 1, 1, 1, 1, 1, 1, 1, 1);
        leaves("votes(2)", 511);
        given("quota(0, 8)");
        leaves("votes(2)", 255);
        promise(36, "NONE.");
        rich();
        leavesEach("votes(#)", NONE, "-1", "3", "4", "IMIN", "IMAX");
    }
}
