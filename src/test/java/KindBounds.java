/** Sentences of promises 37 to 48. */
final class KindBounds extends Bound {
    static void all() {
        promise37();
        promise38();
        promise39();
        promise40();
        promise40Beyond();
        promise40InOrder();
        promise41();
        promise42();
        promise43();
        promise43Beyond();
        promise44();
        promise45();
        promise46();
        promise47();
        promise48();
    }

    private static void promise37() {
        promise(37, "PARTNERS (bits) that are what 0 NULL, 1 DUMMY, 2 VETO.");
        start(3);
        leaves("kind(0, 0)", 7);
        leaves("kind(0, 1)", 7);
        leaves("kind(0, 2)", 7);
        start(3, EXAMPLE);
        leaves("kind(0, 0)", 0);
        leaves("kind(0, 1)", 0);
        leaves("kind(0, 2)", 0);
        start(3);
        given("unanimous(3, 4, 5)");
        leaves("kind(3, 0)", 3);
        leaves("kind(3, 1)", 7);
        leaves("kind(3, 2)", 4);
        start(1, 5);
        leaves("kind(0, 0)", 0);
        leaves("kind(0, 1)", 1);
        leaves("kind(0, 2)", 1);
        start(9);
        given("unanimous(0, 256, 5)");
        leaves("kind(0, 0)", 255);
        leaves("kind(0, 1)", 511);
        leaves("kind(0, 2)", 256);
        promise(37, "NONE: game, what.");
        rich();
        leavesEach("kind(#, 0)", NONE, WRONG_GAMES);
        leavesEach("kind(0, #)", NONE, "-1", "3", "IMIN", "IMAX");
    }

    private static void promise38() {
        promise(38, "PARTNERS (bits) that are ALIKE one (itself, too).");
        start(1, 5);
        leaves("alike(0, 0)", 1);
        start(3, EXAMPLE);
        leaves("alike(0, 0)", 1);
        leaves("alike(0, 1)", 2);
        leaves("alike(0, 2)", 4);
        leaves("alike(1, 2)", 7);
        start(9);
        leaves("alike(3, 8)", 511);
        given("value(3, 256, 1)");
        leaves("alike(3, 8)", 256);
        leaves("alike(3, 0)", 255);
        promise(38, "NONE: game, partner.");
        rich();
        leavesEach("alike(#, 0)", NONE, WRONG_GAMES);
        leavesEach("alike(0, #)", NONE, WRONG_PARTNERS);
    }

    private static void promise39() {
        promise(39, "CARRIER.");
        start(3, EXAMPLE);
        leaves("carrier(0)", 7);
        leaves("carrier(3)", 0);
        given("without(0, 1)");
        leaves("carrier(0)", 5);
        promise(39, "NONE.");
        rich();
        leavesEach("carrier(#)", NONE, WRONG_GAMES);
    }

    private static void promise40() {
        promise(40, "Whether it is MONOTONE (what 0), CONVEX (1), ADDITIVE (2): 1, 0.");
        start(3);
        leaves("is(0, 0)", 1);
        leaves("is(0, 1)", 1);
        leaves("is(0, 2)", 1);
        start(2, 3, 3, 5);
        leaves("is(0, 0)", 1);
        leaves("is(0, 1)", 0);
        leaves("is(0, 2)", 0);
        start(2, -1, 0, -1);
        leaves("is(0, 0)", 0);
        leaves("is(0, 1)", 1);
        leaves("is(0, 2)", 1);
        start(3, 0, 0, 4, 0, 4, 0, 4);
        leaves("is(0, 0)", 1);
        leaves("is(0, 1)", 0);
        leaves("is(0, 2)", 1);
        promise(40, "NONE;");
        rich();
        leavesEach("is(#, 0)", NONE, WRONG_GAMES);
        leavesEach("is(0, #)", NONE, "-1", "3", "IMIN", "IMAX");
    }

    private static void promise40Beyond() {
        promise(40, "OVER: a sum would be beyond");
        startLarge(2, 4, 3, 7);
        leaves("is(0, 2)", 1);
        leaves("is(0, 1)", OVER);
        startLarge(2, 3, 4, 7);
        leaves("is(0, 1)", OVER);
        startLarge(2, 4, 4, 4);
        leaves("is(0, 0)", 1);
        leaves("is(0, 1)", OVER);
        leaves("is(0, 2)", OVER);
        startLarge(2, -4, -4, 0);
        leaves("is(0, 1)", 1);
        leaves("is(0, 2)", 1);
        startLarge(2, -4, -5, 0);
        leaves("is(0, 1)", OVER);
        leaves("is(0, 2)", OVER);
        startLarge(2, 4, 0, 3);
        leaves("is(0, 1)", 0);
        startLarge(2, 4, 0, 4);
        leaves("is(0, 1)", OVER);
        leaves("is(0, 2)", 1);
        start(1);
        greatest(0, 1);
        leaves("is(0, 0)", 1);
        leaves("is(0, 1)", 1);
        leaves("is(0, 2)", 1);
        start(1);
        least(0, 1);
        leaves("is(0, 0)", 0);
        leaves("is(0, 1)", 1);
        leaves("is(0, 2)", 1);
    }

    private static void promise40InOrder() {
        promise(40, "(of those looked at in order: of two SETS the lesser ahead, by numbers, till one tells that it"
            + " isn't so).");
        startLarge(3, 1, 4, 0, 4, 0, 0, 0);
        leaves("is(0, 1)", 0);
        leaves("is(0, 2)", 0);
        startLarge(3, 4, 1, 6, 4, 0, 0, 0);
        leaves("is(0, 1)", OVER);
        leaves("is(0, 2)", OVER);
        startLarge(3, 4, 1, 5, 3, 7, 3, 0);
        leaves("is(0, 1)", OVER);
        leaves("is(0, 2)", 0);
        startLarge(3, 0, 0, 0, 0, 4, 4, 3);
        leaves("is(0, 2)", 0);
        leaves("is(0, 1)", 0);
        startLarge(3, 0, 4, 4, 0, 0, 0, 4);
        leaves("is(0, 1)", OVER);
        leaves("is(0, 2)", 0);
        startLarge(3, -4, 0, 0, -4, 0, 0, 0);
        leaves("is(0, 1)", 0);
        leaves("is(0, 2)", 1);
        startLarge(3, -4, 0, 0, -5, 0, 0, 0);
        leaves("is(0, 1)", OVER);
        leaves("is(0, 2)", OVER);
    }

    private static void promise41() {
        promise(41, "UNION of a PARTNER.");
        start(9);
        leaves("union(0)", 0);
        leaves("union(8)", 8);
        given("unite(8, 0)");
        leaves("union(8)", 0);
        given("unite(0, 0)");
        leaves("union(8)", 8);
        promise(41, "NONE.");
        rich();
        leavesEach("union(#)", NONE, WRONG_PARTNERS);
    }

    private static void promise42() {
        promise(42, "Whether TOLD SHARES (the n longs of a ROW from a place on) are STABLE: 1, 0.");
        rich();
        leaves("stable(0, 1, 1)", 1);
        leaves("stable(0, 1, 0)", 0);
        leaves("stable(0, 1, 2)", 0);
        promise(42, "NONE: game, row;");
        leavesEach("stable(#, 1, 1)", NONE, WRONG_GAMES);
        leavesEach("stable(0, #, 1)", NONE, WRONG_ROWS);
        promise(42, "STATE: nothing is in the ROW, it ends ahead of that (or the place is below 0);");
        leaves("stable(0, 3, 0)", STATE);
        leaves("stable(0, 2, 0)", STATE);
        leavesEach("stable(0, 1, #)", STATE, "3", "4", "5", "-1", "IMIN", "IMAX");
        given("row(3, 2)");
        leaves("stable(0, 3, 0)", STATE);
        promise(42, "OVER.");
        tell(3, Long.MAX_VALUE, 0, 1);
        leaves("stable(0, 3, 0)", OVER);
        tell(3, Long.MIN_VALUE, 0, -1);
        leaves("stable(0, 3, 0)", OVER);
        tell(3, Long.MAX_VALUE, 0, 0);
        leaves("stable(0, 3, 0)", 0);
        start(2);
        greatest(0, 3);
        tell(1, Long.MAX_VALUE, 0);
        leaves("stable(0, 1, 0)", 1);
        given("set(1, 1, 1)");
        leaves("stable(0, 1, 0)", OVER);
    }

    private static void promise43() {
        promise(43, "WORST; -5: none.");
        rich();
        leaves("worst(0, 1, 1)", 1);
        start(1, 5);
        tell(0, 9);
        leaves("worst(0, 0, 0)", NO_SUCH);
        given("set(0, 0, MIN)");
        leaves("worst(0, 0, 0)", NO_SUCH);
        start(2, 5, 6, 0);
        tell(0, 5, 6);
        leaves("worst(0, 0, 0)", 1);
        start(9);
        given("row(0, 9)", "value(0, 510, 1)");
        leaves("worst(0, 0, 0)", 510);
        given("value(0, 511, 5)", "value(0, 256, 1)");
        leaves("worst(0, 0, 0)", 256);
        promise(43, "NONE, STATE likewise;");
        rich();
        leavesEach("worst(#, 1, 1)", NONE, WRONG_GAMES);
        leavesEach("worst(0, #, 1)", NONE, WRONG_ROWS);
        leaves("worst(0, 3, 0)", STATE);
        leaves("worst(0, 2, 0)", STATE);
        leavesEach("worst(0, 1, #)", STATE, "3", "4", "5", "-1", "IMIN", "IMAX");
    }

    private static void promise43Beyond() {
        promise(43, "OVER: an EXCESS of any SET that is looked at (what is told of it, added up by PARTNERS, too)"
            + " would be beyond.");
        start(3, EXAMPLE);
        tell(0, Long.MAX_VALUE, 1, 0);
        leaves("worst(0, 0, 0)", OVER);
        tell(0, 0, 1, Long.MAX_VALUE);
        leaves("worst(0, 0, 0)", OVER);
        tell(0, 0, 0, Long.MIN_VALUE);
        leaves("worst(0, 0, 0)", OVER);
        tell(0, 0, 0, Long.MIN_VALUE + 10);
        leaves("worst(0, 0, 0)", 6);
        tell(0, 0, 0, Long.MIN_VALUE + 9);
        leaves("worst(0, 0, 0)", OVER);
        long half = Long.MAX_VALUE / 2;
        tell(0, half, half, half);
        leaves("worst(0, 0, 0)", 4);
        start(2, 0, 0, 9);
        tell(0, Long.MAX_VALUE, Long.MAX_VALUE);
        leaves("worst(0, 0, 0)", 1);
        tell(0, Long.MIN_VALUE, 0);
        leaves("worst(0, 0, 0)", OVER);
        given("value(0, 1, -1)");
        leaves("worst(0, 0, 0)", 1);
        start(2);
        least(0, 3);
        tell(0, Long.MIN_VALUE + 1, Long.MIN_VALUE + 1);
        leaves("worst(0, 0, 0)", 1);
    }

    private static void promise44() {
        promise(44, "EXCESS of a SET.");
        rich();
        leaves("excess(0, 1, 1, 0)", 0);
        leaves("excess(0, 1, 1, 1)", -4);
        leaves("excess(0, 1, 1, 7)", 0);
        leaves("excess(0, 1, 2, 7)", 4);
        promise(44, "NO: game, row, set;");
        leavesEach("excess(#, 1, 1, 1)", NO, WRONG_GAMES);
        leavesEach("excess(0, #, 1, 1)", NO, WRONG_ROWS);
        leavesEach("excess(0, 1, 1, #)", NO, WRONG_SETS);
        promise(44, "as STATE;");
        leaves("excess(0, 3, 0, 1)", NO);
        leaves("excess(0, 2, 0, 1)", NO);
        leaves("excess(0, 2, 0, 0)", NO);
        leavesEach("excess(0, 1, #, 1)", NO, "3", "4", "5", "-1", "IMIN", "IMAX");
        promise(44, "it would be beyond.");
        tell(3, Long.MIN_VALUE, 0, Long.MAX_VALUE);
        leaves("excess(0, 3, 0, 1)", NO);
        leaves("excess(0, 3, 0, 0)", 0);
        leaves("excess(0, 3, 0, 2)", 2);
        leaves("excess(0, 3, 0, 4)", 3 - Long.MAX_VALUE);
        leaves("excess(0, 3, 0, 5)", 8);
        leaves("excess(0, 3, 0, 7)", 21);
        leaves("excess(1, 3, 0, 1)", NO);
        tell(3, Long.MAX_VALUE, 1, -1);
        leaves("excess(0, 3, 0, 7)", NO);
        tell(3, Long.MAX_VALUE, -1, 1);
        leaves("excess(0, 3, 0, 7)", 20 - Long.MAX_VALUE);
        start(1);
        least(0, 1);
        tell(0, 1);
        leaves("excess(0, 0, 0, 1)", NO);
        given("set(0, 0, -1)");
        leaves("excess(0, 0, 0, 1)", Long.MIN_VALUE + 1);
    }

    private static void promise45() {
        promise(45, "THE PAPER becomes SHARES of a GAME SPELLED: how many bytes.");
        start(1);
        does("spell(0)", 1);
        paperHolds("0");
        start(9);
        does("spell(0)", 17);
        paperHolds("0 0 0 0 0 0 0 0 0");
        given("value(0, 1, 1000000000000)");
        doubled(0, 7);
        does("spell(0)", 161);
        paperHolds("128000000000000/9" + " -16000000000000/9".repeat(8));
        promise(45, "NONE;");
        rich();
        leavesEach("spell(#)", NONE, WRONG_GAMES);
        promise(45, "OVER.");
        startLarge(2, 4, 0, 4);
        given("spell(1)");
        leaves("spell(0)", OVER);
        given("swap(0, 0, 1)");
        leaves("spell(0)", OVER);
        paperHolds("0 0");
        startLarge(2, -4, 0, -4);
        does("spell(0)", 22);
        paperHolds("-4611686018427387904 0");
    }

    private static void promise46() {
        promise(46, "Byte i of THE PAPER.");
        rich();
        leaves("paper(0)", '1');
        leaves("paper(2)", '/');
        leaves("paper(4)", ' ');
        leaves("paper(13)", '6');
        promise(46, "NONE.");
        leavesEach("paper(#)", NONE, "-1", "14", "15", "256", "IMIN", "IMAX");
        fresh();
        leavesEach("paper(#)", NONE, "-1", "0", "1");
    }

    private static void promise47() {
        promise(47, "What 0 n, 1 QUOTA, 2 ESTATE, 3 EDGES, 4 UNIONS, 5 bytes of THE TAPE, 6 of THE PAPER, 7 WEIGHTS"
            + " added up, 10 .. 18 WEIGHT of PARTNER what less 10.");
        rich();
        long[] due = {3, 9, 7, 2, 2, 4, 14, 13, NONE, NONE, 2, 5, 6, NONE};
        for (int what = 0; what < due.length; what++) {
            leaves("told(" + what + ")", due[what]);
        }
        start(9);
        weigh(0, 1000, 1000, 1000, 1000, 1000, 1000, 1000, 1000, 999);
        leaves("told(1)", 0);
        leaves("told(7)", 8999);
        leaves("told(10)", 1000);
        leaves("told(18)", 999);
        promise(47, "NONE (also: no such PARTNER).");
        leavesEach("told(#)", NONE, "-1", "8", "9", "19", "20", "IMIN", "IMAX");
        start(1);
        leaves("told(10)", 0);
        leavesEach("told(#)", NONE, "-1", "8", "9", "11", "18", "19");
    }

    private static void promise48() {
        promise(48, "WORTH of the EDGE of two.");
        rich();
        leaves("worth(0, 2)", 9);
        leaves("worth(2, 0)", 9);
        leaves("worth(1, 0)", -3);
        given("edge(1, 2, 0)");
        leaves("worth(1, 2)", 0);
        promise(48, "NO: partners;");
        leavesEach("worth(#, 0)", NO, WRONG_PARTNERS);
        leavesEach("worth(0, #)", NO, WRONG_PARTNERS);
        leavesEach("worth(#, #)", NO, "0", "1", "2");
        promise(48, "there is none.");
        given("cut(1, 2)");
        leaves("worth(1, 2)", NO);
        leaves("worth(2, 1)", NO);
        start(9);
        leaves("worth(0, 8)", NO);
    }
}
