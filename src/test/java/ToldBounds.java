/** Sentences of promises 1 to 12. */
final class ToldBounds extends Bound {
    static void all() {
        promise01();
        promise02();
        promise03();
        promise04();
        promise05();
        promise06();
        promise07();
        promise08();
        promise09();
        promise09Goes();
        promise10();
        promise11();
        promise12();
    }

    private static void promise01() {
        promise(1, "One PARTNER.");
        fresh();
        leaves("told(0)", 1);
        leaves("told(4)", 1);
        leaves("union(0)", 0);
        leaves("union(1)", NONE);
        leaves("valueOf(0, 1)", 0);
        leaves("valueOf(0, 2)", NO);
        leaves("told(10)", 0);
        leaves("told(11)", NONE);
        leaves("undo()", STATE);
    }

    private static void promise02() {
        promise(2, "There are n PARTNERS then, all else is as at first (but ROWS, THE TAPE, THE PAPER, THE IMAGE): n.");
        fresh();
        does("partners(1)", 1);
        does("partners(9)", 9);
        leaves("union(8)", 8);
        leaves("valueOf(3, 511)", 0);
        leaves("valueOf(3, 512)", NO);
        rich();
        does("partners(3)", 3);
        for (int game = 0; game < 4; game++) {
            holds(game, 0, 0, 0, 0, 0, 0, 0, 0);
        }
        long[] due = {3, 1, 0, 0, 3, 4, 14, 0, NONE, NONE, 0, 0, 0, NONE};
        for (int what = 0; what < due.length; what++) {
            leaves("told(" + what + ")", due[what]);
        }
        leaves("worth(0, 1)", NO);
        leaves("worth(0, 2)", NO);
        leaves("union(2)", 2);
        paperHolds("16/3 41/6 47/6");
        rowHolds(0, 2, 0, 1, NO);
        rowHolds(1, 9, 5, 7, 8, 1, NO);
        leaves("set(2, 0, 1)", BEYOND);
        leaves("set(3, 0, 1)", NOTHING);
        does("read(0)", 1);
        holds(0, 0, 0, 0, 0, 0, 5, 0, 0);
        does("partners(1)", 1);
        does("undo()", 3);
        holds(0, 0, 1, 2, 6, 3, 7, 9, 20);
        start(9);
        for (int game = 0; game < 4; game++) {
            given("value(" + game + ", 511, 7)");
        }
        given("weight(8, 5)", "edge(7, 8, 1)", "unite(8, 7)", "partners(1)", "partners(9)");
        for (int game = 0; game < 4; game++) {
            leaves("valueOf(" + game + ", 511)", 0);
        }
        leaves("told(18)", 0);
        leaves("told(3)", 0);
        leaves("union(8)", 8);
        promise(2, "BAD.");
        rich();
        leavesEach("partners(#)", BAD, "0", "10", "-1", "11", "IMIN", "IMAX");
    }

    private static void promise03() {
        promise(3, "VALUE of a SET becomes v: 1.");
        start(3);
        does("value(0, 1, 1000000000000)", 1);
        does("value(0, 7, -1000000000000)", 1);
        does("value(3, 4, 1)", 1);
        does("value(3, 4, 0)", 1);
        does("value(3, 4, 0)", 1);
        holds(0, 0, 1000000000000L, 0, 0, 0, 0, 0, -1000000000000L);
        holds(3, 0, 0, 0, 0, 0, 0, 0, 0);
        promise(3, "NONE: game, set (also the empty one);");
        rich();
        leavesEach("value(#, 1, 1)", NONE, WRONG_GAMES);
        leavesEach("value(0, #, 1)", NONE, WRONG_SETS);
        leaves("value(0, 0, 1)", NONE);
        leaves("value(0, 0, 0)", NONE);
        promise(3, "BAD: v.");
        leavesEach("value(0, 7, #)", BAD, "1000000000001", "-1000000000001", "MIN", "MAX");
    }

    private static void promise04() {
        promise(4, "VALUE of a SET.");
        rich();
        leaves("valueOf(0, 0)", 0);
        leaves("valueOf(0, 1)", 1);
        leaves("valueOf(0, 7)", 20);
        leaves("valueOf(3, 1)", 8);
        leaves("valueOf(1, 7)", -5);
        promise(4, "NO: game, set.");
        leavesEach("valueOf(#, 1)", NO, WRONG_GAMES);
        leavesEach("valueOf(0, #)", NO, WRONG_SETS);
    }

    private static void promise05() {
        promise(5, "WEIGHT of a PARTNER becomes w: what it was.");
        start(3);
        does("weight(0, 1000)", 0);
        does("weight(0, 1000)", 1000);
        does("weight(0, 0)", 1000);
        does("weight(2, 7)", 0);
        leaves("told(10)", 0);
        leaves("told(12)", 7);
        promise(5, "NONE;");
        rich();
        leavesEach("weight(#, 1)", NONE, WRONG_PARTNERS);
        promise(5, "BAD.");
        leavesEach("weight(2, #)", BAD, "-1", "1001", "IMIN", "IMAX");
    }

    private static void promise06() {
        promise(6, "QUOTA (what 0), ESTATE (1) becomes v: what it was.");
        fresh();
        does("quota(0, 0)", 1);
        does("quota(0, 9999)", 0);
        does("quota(0, 5)", 9999);
        does("quota(1, 9999)", 0);
        does("quota(1, 0)", 9999);
        leaves("told(1)", 5);
        leaves("told(2)", 0);
        promise(6, "NONE: what;");
        rich();
        leavesEach("quota(#, 1)", NONE, "-1", "2", "IMIN", "IMAX");
        promise(6, "BAD: v.");
        leavesEach("quota(0, #)", BAD, "-1", "10000", "IMIN", "IMAX");
        leavesEach("quota(1, #)", BAD, "-1", "10000", "IMIN", "IMAX");
    }

    private static void promise07() {
        promise(7, "The EDGE of two unlike PARTNERS has a WORTH: 1, or 0, if it had that.");
        start(3);
        does("edge(0, 2, 0)", 1);
        leaves("told(3)", 1);
        leaves("edge(0, 2, 0)", 0);
        leaves("edge(2, 0, 0)", 0);
        does("edge(2, 0, -9999)", 1);
        leaves("told(3)", 1);
        leaves("edge(0, 2, -9999)", 0);
        does("edge(0, 2, 9999)", 1);
        leaves("worth(0, 2)", 9999);
        leaves("worth(0, 1)", NO);
        given("cut(0, 2)");
        does("edge(0, 2, 9999)", 1);
        promise(7, "NONE: partners;");
        rich();
        leavesEach("edge(#, 0, 9)", NONE, WRONG_PARTNERS);
        leavesEach("edge(0, #, 9)", NONE, WRONG_PARTNERS);
        leaves("edge(0, 0, 9)", NONE);
        leaves("edge(2, 2, 9)", NONE);
        promise(7, "BAD.");
        leavesEach("edge(0, 2, #)", BAD, "10000", "-10000", "IMIN", "IMAX");
        leavesEach("edge(1, 2, #)", BAD, "10000", "-10000", "IMIN", "IMAX");
    }

    private static void promise08() {
        promise(8, "There is no EDGE of two: 1.");
        rich();
        does("cut(2, 0)", 1);
        leaves("worth(0, 2)", NO);
        leaves("worth(0, 1)", -3);
        leaves("told(3)", 1);
        given("edge(1, 2, 0)");
        does("cut(1, 2)", 1);
        leaves("worth(1, 2)", NO);
        promise(8, "NONE: partners;");
        leavesEach("cut(#, 0)", NONE, WRONG_PARTNERS);
        leavesEach("cut(0, #)", NONE, WRONG_PARTNERS);
        leaves("cut(1, 1)", NONE);
        promise(8, "STATE: there is none.");
        leaves("cut(1, 2)", STATE);
        leaves("cut(2, 1)", STATE);
        leaves("cut(0, 2)", STATE);
        does("cut(0, 1)", 1);
        leaves("cut(0, 1)", STATE);
        leaves("told(3)", 0);
    }

    private static void promise09() {
        promise(9, "A PARTNER comes to the UNION of another (itself: it stands alone): the number of that UNION then.");
        start(4);
        does("unite(0, 0)", 0);
        leaves("told(4)", 4);
        does("unite(3, 2)", 2);
        does("unite(3, 2)", 2);
        does("unite(2, 3)", 2);
        leaves("told(4)", 3);
        does("unite(0, 3)", 0);
        leaves("union(2)", 0);
        does("unite(1, 2)", 0);
        leaves("told(4)", 1);
        does("unite(0, 0)", 0);
        leaves("union(1)", 1);
        leaves("union(2)", 1);
        leaves("union(3)", 1);
        leaves("told(4)", 2);
        does("unite(3, 3)", 3);
        does("unite(1, 0)", 0);
        leaves("union(2)", 2);
        leaves("told(4)", 3);
        start(1);
        does("unite(0, 0)", 0);
        leaves("told(4)", 1);
        promise(9, "NONE.");
        rich();
        leavesEach("unite(#, 0)", NONE, WRONG_PARTNERS);
        leavesEach("unite(0, #)", NONE, WRONG_PARTNERS);
        leavesEach("unite(#, #)", NONE, WRONG_PARTNERS);
    }

    /** Nine that stand alone, all together, and alone again: there is a number for each of them. */
    private static void promise09Goes() {
        promise(9, "(itself: it stands alone)");
        start(9);
        for (int p = 0; p < 8; p++) {
            does("unite(" + p + ", 8)", 0);
        }
        leaves("told(4)", 1);
        for (int p = 0; p < 9; p++) {
            does("unite(" + p + ", " + p + ")", p);
            leaves("union(8)", Math.min(8, p + 1));
            leaves("told(4)", Math.min(9, p + 2));
        }
        for (int p = 0; p < 9; p++) {
            leaves("union(" + p + ")", p);
        }
    }

    private static void promise10() {
        promise(10, "A byte (1 .. 127) comes behind THE TAPE's: how many it has.");
        start(1);
        does("feed(1)", 1);
        does("feed(127)", 2);
        does("clear()", 2);
        feed("a=1");
        does("feed(50)", 4);
        does("read(0)", 1);
        holds(0, 0, 12);
        promise(10, "BAD;");
        rich();
        leavesEach("feed(#)", BAD, "0", "-1", "128", "256", "353", "IMIN", "IMAX");
        promise(10, "FULL.");
        start(1);
        feed("a=1;".repeat(29) + "a=2");
        does("feed(51)", 120);
        leavesEach("feed(#)", FULL, "1", "48", "127");
        does("read(0)", 30);
        holds(0, 0, 23);
        does("feed(51)", 1);
    }

    private static void promise11() {
        promise(11, "THE TAPE is empty then: how many bytes it had.");
        fresh();
        does("clear()", 0);
        does("feed(97)", 1);
        does("clear()", 1);
        does("clear()", 0);
        does("read(0)", -100);
        feed("a".repeat(120));
        does("clear()", 120);
        leaves("told(5)", 0);
        does("feed(97)", 1);
    }

    private static void promise12() {
        promise(12, "THE TAPE is VALUES of a GAME: how many parts;");
        start(2);
        reads(3, "b=1", 1);
        reads(3, "ab=2;ab=3", 2);
        reads(3, "a=1;".repeat(29) + "a=10", 30);
        holds(3, 0, 10, 1, 3);
        holds(0, 0, 0, 0, 0);
        promise(12, "-100 less the FAULT.");
        reads(3, "", -100);
        reads(3, "c=1", -100);
        reads(3, "a=1;", -104);
        reads(3, "a=1;".repeat(30), -220);
        holds(3, 0, 10, 1, 3);
        promise(12, "NONE (THE TAPE stays).");
        rich();
        leavesEach("read(#)", NONE, WRONG_GAMES);
        leaves("told(5)", 4);
        does("read(3)", 1);
        leaves("valueOf(3, 5)", 5);
        fresh();
        leavesEach("read(#)", NONE, WRONG_GAMES);
    }
}
