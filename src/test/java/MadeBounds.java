/** Sentences of promises 13 to 28. */
final class MadeBounds extends Bound {
    static void all() {
        promise13();
        promise14();
        promise15();
        promise16();
        promise17();
        promise18();
        promise19();
        promise20();
        promise21();
        promise22();
        promise23();
        promise24();
        promise25();
        promise26();
        promise27();
        promise28();
    }

    private static void promise13() {
        promise(13, "MADE: how 0 by VOTE, 1 WEIGHTS, 2 EDGES, 3 HEAVIEST, 4 CLAIMS: how many SETS have a VALUE other"
            + " than 0.");
        start(2, 7, 7, 7);
        does("make(0, 0)", 0);
        does("make(0, 1)", 0);
        does("make(0, 2)", 0);
        does("make(0, 3)", 0);
        does("make(0, 4)", 0);
        holds(0, 0, 0, 0, 0);
        weigh(5, 2, 3);
        given("quota(1, 3)", "edge(0, 1, -4)");
        does("make(3, 0)", 1);
        holds(3, 0, 0, 0, 1);
        does("make(3, 1)", 3);
        holds(3, 0, 2, 3, 5);
        does("make(3, 2)", 1);
        holds(3, 0, 0, 0, -4);
        does("make(3, 3)", 3);
        holds(3, 0, 2, 3, 3);
        does("make(3, 4)", 2);
        holds(3, 0, 0, 1, 3);
        does("make(3, 4)", 2);
        given("quota(0, 0)");
        does("make(3, 0)", 3);
        holds(0, 0, 0, 0, 0);
        start(9);
        given("quota(0, 0)", "quota(1, 1)");
        does("make(3, 0)", 511);
        does("make(3, 4)", 511);
        promise(13, "NONE: game, how.");
        rich();
        leavesEach("make(#, 0)", NONE, WRONG_GAMES);
        leavesEach("make(0, #)", NONE, "-1", "5", "6", "IMIN", "IMAX");
    }

    private static void promise14() {
        promise(14, "MADE by PAIRS: likewise.");
        start(3, EXAMPLE);
        does("pairs(0, 0, 0)", 0);
        does("pairs(0, 7, 7)", 7);
        does("pairs(0, 1, 6)", 3);
        does("pairs(0, 1, 6)", 3);
        start(9);
        does("pairs(3, 511, 511)", 511);
        leaves("valueOf(3, 511)", 9);
        does("pairs(3, 256, 511)", 256);
        promise(14, "NONE: game;");
        rich();
        leavesEach("pairs(#, 1, 2)", NONE, WRONG_GAMES);
        promise(14, "BAD: a, b.");
        leavesEach("pairs(0, #, 2)", BAD, WRONG_SETS);
        leavesEach("pairs(0, 2, #)", BAD, WRONG_SETS);
    }

    private static void promise15() {
        promise(15, "A GAME becomes as another one: 1.");
        rich();
        does("copy(2, 0)", 1);
        holds(2, 0, 1, 2, 6, 3, 7, 9, 20);
        leaves("copy(2, 0)", 1);
        leaves("copy(0, 0)", 1);
        given("value(0, 1, 77)");
        holds(2, 0, 1, 2, 6, 3, 7, 9, 20);
        does("copy(0, 1)", 1);
        holds(0, 0, 0, 0, 0, 0, 0, 0, -5);
        promise(15, "NONE: either.");
        leavesEach("copy(#, 0)", NONE, WRONG_GAMES);
        leavesEach("copy(0, #)", NONE, WRONG_GAMES);
        leavesEach("copy(#, #)", NONE, WRONG_GAMES);
    }

    private static void promise16() {
        promise(16, "SUM (another GAME comes to one; itself, too): 1.");
        rich();
        does("add(0, 0)", 1);
        holds(0, 0, 2, 4, 12, 6, 14, 18, 40);
        does("add(0, 1)", 1);
        holds(0, 0, 2, 4, 12, 6, 14, 18, 35);
        holds(1, 0, 0, 0, 0, 0, 0, 0, -5);
        promise(16, "NONE: either;");
        leavesEach("add(#, 0)", NONE, WRONG_GAMES);
        leavesEach("add(0, #)", NONE, WRONG_GAMES);
        promise(16, "OVER.");
        startLarge(2, -4, 3, 3);
        does("add(0, 0)", 1);
        holds(0, 0, Long.MIN_VALUE, 6 * UNIT, 6 * UNIT);
        leaves("add(0, 0)", OVER);
        startLarge(2, 0, 0, 4);
        leaves("add(0, 0)", OVER);
        startLarge(2, 4, 0, 0);
        leaves("add(0, 0)", OVER);
        start(2);
        greatest(0, 3);
        values(1, 1, 1, 0);
        does("add(0, 1)", 1);
        holds(0, 0, 1, 1, Long.MAX_VALUE);
        values(1, 0, 0, 1);
        leaves("add(0, 1)", OVER);
        leaves("add(1, 0)", OVER);
    }

    private static void promise17() {
        promise(17, "TIMES c (-1000 .. 1000): 1.");
        start(2, 1, -2, 3);
        does("times(0, 1000)", 1);
        holds(0, 0, 1000, -2000, 3000);
        does("times(0, -1000)", 1);
        holds(0, 0, -1000000, 2000000, -3000000);
        leaves("times(0, 1)", 1);
        does("times(0, 0)", 1);
        holds(0, 0, 0, 0, 0);
        promise(17, "NONE;");
        rich();
        leavesEach("times(#, 2)", NONE, WRONG_GAMES);
        promise(17, "BAD;");
        leavesEach("times(0, #)", BAD, "1001", "-1001", "IMIN", "IMAX");
        promise(17, "OVER.");
        startLarge(2, 1, -1, 0);
        does("times(0, 7)", 1);
        holds(0, 0, 7 * UNIT, -7 * UNIT, 0);
        leaves("times(0, 2)", OVER);
        startLarge(2, 1, 0, 0);
        leaves("times(0, 8)", OVER);
        does("times(0, -8)", 1);
        holds(0, 0, Long.MIN_VALUE, 0, 0);
        leaves("times(0, -1)", OVER);
        start(1);
        greatest(0, 1);
        leaves("times(0, 2)", OVER);
        does("times(0, -1)", 1);
        holds(0, 0, -Long.MAX_VALUE);
    }

    private static void promise18() {
        promise(18, "DUAL: 1.");
        start(1, 5);
        leaves("dual(0)", 1);
        start(3, EXAMPLE);
        does("dual(0)", 1);
        does("dual(0)", 1);
        holds(0, 0, 1, 2, 6, 3, 7, 9, 20);
        leaves("dual(1)", 1);
        promise(18, "NONE;");
        rich();
        leavesEach("dual(#)", NONE, WRONG_GAMES);
        promise(18, "OVER.");
        startLarge(2, 4, 0, -4);
        does("dual(0)", 1);
        holds(0, 0, -4 * UNIT, Long.MIN_VALUE, -4 * UNIT);
        does("dual(0)", 1);
        holds(0, 0, 4 * UNIT, 0, -4 * UNIT);
        startLarge(2, 0, -4, 4);
        leaves("dual(0)", OVER);
        startLarge(2, -4, 0, 4);
        leaves("dual(0)", OVER);
    }

    private static void promise19() {
        promise(19, "COVER: how many SETS have another VALUE then.");
        start(3, EXAMPLE);
        leaves("cover(0)", 0);
        leaves("cover(1)", 0);
        given("value(0, 7, 0)");
        does("cover(0)", 1);
        holds(0, 0, 1, 2, 6, 3, 7, 9, 10);
        given("value(0, 3, 2)", "value(0, 5, 0)", "value(0, 6, 4)");
        does("cover(0)", 3);
        holds(0, 0, 1, 2, 3, 3, 4, 5, 10);
        promise(19, "NONE;");
        rich();
        leavesEach("cover(#)", NONE, WRONG_GAMES);
        promise(19, "OVER.");
        startLarge(3, 0, 4, 0, 4, 0, 0, 0);
        leaves("cover(0)", OVER);
        startLarge(3, 0, 4, 0, 3, 0, 0, 0);
        does("cover(0)", 4);
        holds(0, 0, 0, 4 * UNIT, 4 * UNIT, 3 * UNIT, 3 * UNIT, 7 * UNIT, 7 * UNIT);
        leaves("cover(0)", 0);
    }

    private static void promise20() {
        promise(20, "MASKED by a SET (perhaps empty): how many SETS have another VALUE then.");
        start(3, EXAMPLE);
        leaves("mask(0, 7)", 0);
        does("mask(0, 3)", 4);
        holds(0, 0, 1, 2, 6, 0, 1, 2, 6);
        leaves("mask(0, 3)", 0);
        does("mask(0, 0)", 6);
        holds(0, 0, 0, 0, 0, 0, 0, 0, 0);
        leaves("mask(0, 0)", 0);
        promise(20, "NONE: game;");
        rich();
        leavesEach("mask(#, 1)", NONE, WRONG_GAMES);
        promise(20, "BAD: set.");
        leavesEach("mask(0, #)", BAD, WRONG_SETS);
    }

    private static void promise21() {
        promise(21, "UNANIMOUS: 1.");
        start(3);
        does("unanimous(3, 7, 1000000000000)", 1);
        does("unanimous(3, 1, -1000000000000)", 1);
        leaves("unanimous(3, 1, 0)", 1);
        holds(3, 0, -1000000000000L, 0, -1000000000000L, 0, -1000000000000L, 0, 0);
        promise(21, "NONE: game;");
        rich();
        leavesEach("unanimous(#, 1, 1)", NONE, WRONG_GAMES);
        promise(21, "BAD: set (also the empty one), v (as of a VALUE);");
        leavesEach("unanimous(0, #, 1)", BAD, WRONG_SETS);
        leaves("unanimous(0, 0, 1)", BAD);
        leavesEach("unanimous(0, 1, #)", BAD, "1000000000001", "-1000000000001", "MIN", "MAX");
        promise(21, "OVER.");
        start(2);
        least(0, 3);
        leaves("unanimous(0, 3, -1)", OVER);
        leaves("unanimous(0, 1, -1)", OVER);
        does("unanimous(0, 3, 1)", 1);
        does("unanimous(0, 3, -1)", 1);
        holds(0, 0, 0, 0, Long.MIN_VALUE);
        start(2);
        greatest(0, 2);
        leaves("unanimous(0, 2, 1)", OVER);
        does("unanimous(0, 3, 1)", 1);
        holds(0, 0, 0, Long.MAX_VALUE, 1);
    }

    private static void promise22() {
        promise(22, "A PARTNER is of no use: each SET has the VALUE that it has without it (as it was): how many"
            + " SETS have another VALUE then.");
        start(1, 5);
        does("without(0, 0)", 1);
        holds(0, 0, 0);
        leaves("without(0, 0)", 0);
        start(3, EXAMPLE);
        does("without(0, 0)", 4);
        holds(0, 0, 0, 2, 2, 3, 3, 9, 9);
        leaves("without(0, 0)", 0);
        does("without(0, 2)", 4);
        holds(0, 0, 0, 2, 2, 0, 0, 2, 2);
        promise(22, "NONE: either.");
        rich();
        leavesEach("without(#, 0)", NONE, WRONG_GAMES);
        leavesEach("without(0, #)", NONE, WRONG_PARTNERS);
    }

    private static void promise23() {
        promise(23, "Another PARTNER goes along with one: each SET with that one has the VALUE (as it was) with"
            + " both, each without it that without both: likewise.");
        start(3, EXAMPLE);
        does("join(0, 0, 2)", 4);
        holds(0, 0, 7, 2, 20, 0, 7, 2, 20);
        leaves("join(0, 0, 2)", 0);
        start(3, EXAMPLE);
        does("join(0, 2, 0)", 4);
        holds(0, 0, 0, 2, 2, 7, 7, 20, 20);
        start(2, 1, 2, 5);
        does("join(0, 1, 0)", 2);
        holds(0, 0, 0, 5, 5);
        promise(23, "NONE: game, partners (unlike ones).");
        rich();
        leavesEach("join(#, 0, 1)", NONE, WRONG_GAMES);
        leavesEach("join(0, #, 1)", NONE, WRONG_PARTNERS);
        leavesEach("join(0, 1, #)", NONE, WRONG_PARTNERS);
        leavesEach("join(0, #, #)", NONE, "0", "1", "2");
    }

    private static void promise24() {
        promise(24, "Two PARTNERS (perhaps the same one) are in each other's places: each SET has the VALUE (as it"
            + " was) of that with the one for the other: likewise.");
        start(3, EXAMPLE);
        leaves("swap(0, 0, 0)", 0);
        leaves("swap(0, 2, 2)", 0);
        does("swap(0, 0, 2)", 4);
        holds(0, 0, 3, 2, 9, 1, 7, 6, 20);
        does("swap(0, 2, 0)", 4);
        holds(0, 0, 1, 2, 6, 3, 7, 9, 20);
        leaves("swap(1, 0, 1)", 0);
        start(1, 5);
        leaves("swap(0, 0, 0)", 0);
        promise(24, "NONE.");
        rich();
        leavesEach("swap(#, 0, 1)", NONE, WRONG_GAMES);
        leavesEach("swap(0, #, 1)", NONE, WRONG_PARTNERS);
        leavesEach("swap(0, 1, #)", NONE, WRONG_PARTNERS);
        leavesEach("swap(0, #, #)", NONE, WRONG_PARTNERS);
    }

    private static void promise25() {
        promise(25, "The least SET of which two GAMES have unlike VALUES; -5.");
        start(3, EXAMPLE);
        given("copy(3, 0)");
        leaves("differ(0, 3)", NO_SUCH);
        leaves("differ(0, 0)", NO_SUCH);
        leaves("differ(1, 2)", NO_SUCH);
        given("value(3, 7, 21)");
        leaves("differ(0, 3)", 7);
        given("value(3, 1, 0)");
        leaves("differ(0, 3)", 1);
        leaves("differ(3, 0)", 1);
        promise(25, "NONE.");
        rich();
        leavesEach("differ(#, 0)", NONE, WRONG_GAMES);
        leavesEach("differ(0, #)", NONE, WRONG_GAMES);
        leavesEach("differ(#, #)", NONE, WRONG_GAMES);
    }

    private static void promise26() {
        promise(26, "How many unlike VALUES the SETS of a GAME have (the empty one's, too).");
        start(1);
        leaves("unlike(0)", 1);
        given("value(0, 1, 1)");
        leaves("unlike(0)", 2);
        start(3);
        leaves("unlike(3)", 1);
        values(3, 5, 5, 5, 5, 5, 5, 5);
        leaves("unlike(3)", 2);
        values(3, EXAMPLE);
        leaves("unlike(3)", 8);
        given("value(3, 7, -20)", "value(3, 1, -2)");
        leaves("unlike(3)", 8);
        given("value(3, 7, 0)");
        leaves("unlike(3)", 7);
        start(9);
        weigh(1, 1, 2, 4, 8, 16, 32, 64, 128, 256);
        given("make(3, 1)");
        leaves("unlike(3)", 512);
        promise(26, "NONE.");
        rich();
        leavesEach("unlike(#)", NONE, WRONG_GAMES);
    }

    private static void promise27() {
        promise(27, "What the PARTNER at place k of a TOLD ORDER (0 the first) adds to the SET of those ahead of it.");
        rich();
        leaves("adds(0, 0, 0, 0)", 3);
        leaves("adds(0, 0, 0, 1)", 4);
        leaves("adds(0, 0, 0, 2)", 13);
        start(1, -7);
        given("row(3, 20)");
        leaves("adds(0, 3, 19, 0)", -7);
        promise(27, "NO: game, row, k;");
        rich();
        leavesEach("adds(#, 0, 0, 0)", NO, WRONG_GAMES);
        leavesEach("adds(0, #, 0, 0)", NO, WRONG_ROWS);
        leavesEach("adds(0, 0, 0, #)", NO, "-1", "3", "4", "IMIN", "IMAX");
        promise(27, "it is no such ORDER;");
        leavesEach("adds(0, 0, #, 0)", NO, "-1", "1", "2", "3", "IMIN", "IMAX");
        leaves("adds(0, 1, 0, 0)", NO);
        leaves("adds(0, 2, 0, 0)", NO);
        leaves("adds(0, 3, 0, 0)", NO);
        given("set(0, 2, 0)");
        leavesEach("adds(0, 0, 0, #)", NO, "0", "1", "2");
        promise(27, "it would be beyond.");
        startLarge(2, 4, 4, -4);
        tell(0, 0, 1);
        leaves("adds(0, 0, 0, 1)", Long.MIN_VALUE);
        leaves("adds(0, 0, 0, 0)", 4 * UNIT);
        startLarge(2, -4, 4, 4);
        tell(0, 0, 1, 0);
        leaves("adds(0, 0, 0, 1)", NO);
        leaves("adds(0, 0, 1, 1)", 0);
    }

    private static void promise28() {
        promise(28, "The PARTNER of a TOLD ORDER with which the SET of those ahead WINS first (which didn't); -5.");
        start(3);
        weigh(4, 2, 1, 1);
        tell(0, 2, 0, 1);
        leaves("pivot(0, 0)", 1);
        given("quota(0, 3)");
        leaves("pivot(0, 0)", 0);
        given("quota(0, 1)");
        leaves("pivot(0, 0)", 2);
        given("weight(2, 0)");
        leaves("pivot(0, 0)", 0);
        given("quota(0, 0)");
        leaves("pivot(0, 0)", NO_SUCH);
        given("quota(0, 4)");
        leaves("pivot(0, 0)", NO_SUCH);
        promise(28, "NONE: row;");
        rich();
        leavesEach("pivot(#, 0)", NONE, WRONG_ROWS);
        promise(28, "STATE: it is no such ORDER.");
        leavesEach("pivot(0, #)", STATE, "-1", "1", "2", "3", "IMIN", "IMAX");
        leaves("pivot(1, 0)", STATE);
        leaves("pivot(2, 0)", STATE);
        leaves("pivot(3, 0)", STATE);
        given("set(0, 0, 1)");
        leaves("pivot(0, 0)", STATE);
        given("set(0, 0, 3)");
        leaves("pivot(0, 0)", STATE);
    }
}
