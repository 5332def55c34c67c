/** Sentences of promises 49 to 54. */
final class RowBounds extends Bound {
    static void all() {
        promise49();
        promise50();
        promise51();
        promise52();
        promise52Beyond();
        promise53();
        promise54();
    }

    private static void promise49() {
        promise(49, "A ROW becomes a row of n longs, all 0: 1.");
        rich();
        does("row(1, 2)", 1);
        rowHolds(1, 0, 0, NO);
        given("set(1, 0, 7)");
        does("row(1, 20)", 1);
        rowHolds(1, 0, 0, 0, 0, 0, 0, 0, 0, 0, 0, 0, 0, 0, 0, 0, 0, 0, 0, 0, 0, NO);
        does("row(3, 0)", 1);
        leaves("set(3, 0, 1)", BEYOND);
        rowHolds(0, 2, 0, 1, NO);
        promise(49, "NONE: row;");
        leavesEach("row(#, 1)", NONE, WRONG_ROWS);
        promise(49, "BAD: n above 20;");
        leavesEach("row(0, #)", BAD, "21", "22", "IMAX");
        promise(49, "BELOW.");
        leavesEach("row(0, #)", BELOW, "-1", "-20", "IMIN");
    }

    private static void promise50() {
        promise(50, "Place i of a ROW becomes v: 1.");
        start(1);
        given("row(3, 20)");
        does("set(3, 0, MIN)", 1);
        does("set(3, 19, MAX)", 1);
        does("set(3, 0, -1)", 1);
        rowHolds(3, -1, 0);
        leaves("get(3, 19)", Long.MAX_VALUE);
        promise(50, "NONE;");
        rich();
        leavesEach("set(#, 0, 1)", NONE, WRONG_ROWS);
        promise(50, "NOTHING;");
        leaves("set(3, 0, 1)", NOTHING);
        leaves("set(3, -1, 1)", NOTHING);
        leaves("set(3, 20, 1)", NOTHING);
        promise(50, "BEYOND.");
        leavesEach("set(1, #, 1)", BEYOND, "5", "6", "19", "20", "-1", "IMIN", "IMAX");
        leavesEach("set(2, #, 1)", BEYOND, "0", "-1", "IMIN", "IMAX");
        given("row(1, 2)", "row(1, 1)");
        leaves("set(1, 1, 1)", BEYOND);
    }

    private static void promise51() {
        promise(51, "Place i of a ROW.");
        rich();
        leaves("get(1, 0)", 9);
        leaves("get(1, 4)", 1);
        given("row(3, 20)", "set(3, 19, -6)");
        leaves("get(3, 19)", -6);
        leaves("get(3, 18)", 0);
        promise(51, "NO: no such ROW, nothing there, no such place.");
        rich();
        leavesEach("get(#, 0)", NO, WRONG_ROWS);
        leaves("get(3, 0)", NO);
        leaves("get(3, -1)", NO);
        leaves("get(2, 0)", NO);
        leavesEach("get(1, #)", NO, "5", "6", "19", "20", "-1", "IMIN", "IMAX");
        given("row(1, 2)");
        leaves("get(1, 2)", NO);
    }

    private static void promise52() {
        promise(52, "SHARES of a GAME are LAID into a ROW from i on: n.");
        rich();
        does("lay(0, 0, 0)", 3);
        rowHolds(0, 5, 6, 7, NO);
        does("lay(1, 2, 1)", 3);
        rowHolds(1, 9, 5, -1, -1, -1, NO);
        start(1, -5);
        given("row(3, 20)");
        does("lay(3, 19, 0)", 1);
        leaves("get(3, 19)", -5);
        leaves("get(3, 18)", 0);
        promise(52, "NONE: row, game;");
        rich();
        leavesEach("lay(#, 0, 0)", NONE, WRONG_ROWS);
        leavesEach("lay(0, 0, #)", NONE, WRONG_GAMES);
        promise(52, "NOTHING;");
        leaves("lay(3, 0, 0)", NOTHING);
        leaves("lay(3, -1, 0)", NOTHING);
        promise(52, "OVER;");
        startLarge(2, 4, 0, 4);
        tell(0, 7, 7, 7);
        leaves("lay(0, 0, 0)", OVER);
        given("swap(0, 0, 1)");
        leaves("lay(0, 0, 0)", OVER);
        leaves("lay(0, 2, 0)", OVER);
        startLarge(2, -4, 0, -4);
        tell(0, 7, 7);
        does("lay(0, 0, 0)", 2);
        rowHolds(0, Long.MIN_VALUE / 2, 0);
    }

    private static void promise52Beyond() {
        promise(52, "BEYOND: not all were (those that had a place are there all the same; none, if i is below 0).");
        rich();
        does("lay(1, 4, 0)", BEYOND);
        rowHolds(1, 9, 5, 7, 8, 5, NO);
        does("lay(1, 3, 0)", BEYOND);
        rowHolds(1, 9, 5, 7, 5, 6, NO);
        leavesEach("lay(1, #, 0)", BEYOND, "5", "6", "20", "-1", "-2", "-3", "IMIN", "IMAX");
        leavesEach("lay(2, #, 0)", BEYOND, "0", "1", "-1", "IMIN", "IMAX");
        given("row(3, 20)");
        does("lay(3, 18, 0)", BEYOND);
        leaves("get(3, 18)", 5);
        leaves("get(3, 19)", 6);
        leaves("get(3, 17)", 0);
        given("row(3, 2)");
        does("lay(3, 0, 0)", BEYOND);
        rowHolds(3, 5, 6, NO);
    }

    private static void promise53() {
        promise(53, "THE IMAGE is taken: n.");
        start(1, 5);
        does("image()", 1);
        given("value(0, 1, 6)");
        does("undo()", 1);
        holds(0, 0, 5);
        start(9);
        given("value(3, 511, 5)", "weight(8, 6)", "edge(7, 8, 4)", "unite(8, 7)");
        does("image()", 9);
        given("partners(9)");
        does("undo()", 9);
        leaves("valueOf(3, 511)", 5);
        leaves("told(18)", 6);
        leaves("worth(7, 8)", 4);
        leaves("union(8)", 7);
        given("value(3, 511, 8)");
        does("image()", 9);
        given("value(3, 511, 9)", "undo()");
        leaves("valueOf(3, 511)", 8);
    }

    private static void promise54() {
        promise(54, "All is as THE IMAGE: n.");
        rich();
        does("undo()", 3);
        leaves("told(10)", 4);
        leaves("told(2)", 8);
        leaves("worth(0, 1)", NO);
        leaves("undo()", 3);
        given("partners(1)");
        does("undo()", 3);
        holds(0, 0, 1, 2, 6, 3, 7, 9, 20);
        holds(3, 0, 8, 0, 0, 0, 0, 0, 0);
        promise(54, "STATE: there is none.");
        fresh();
        leaves("undo()", STATE);
        given("partners(3)", "row(0, 2)", "spell(0)");
        leaves("undo()", STATE);
        start(9, EXAMPLE);
        leaves("undo()", STATE);
    }
}
