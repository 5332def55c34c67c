/** Sentences of the terms, part 1: what there is, what is told, and games made by rules. */
final class GameBounds extends Bound {
    static void all() {
        limits();
        partners();
        sets();
        values();
        games();
        beyond();
        weights();
        votes();
        edges();
        unions();
        madeByVote();
        madeByWeights();
        madeByEdges();
        madeByHeaviest();
        madeByPairs();
        madeByClaims();
    }

    private static void limits() {
        limit("An object is used for at most 512 calls after it has been made; what later calls answer is free.");
        start(9);
        for (int k = 2; k < Stage.MOST_CALLS; k++) {
            int set = k % 511 + 1;
            does("value(" + k % 4 + ", " + set + ", " + k + ")", 1);
        }
        does("valueOf(3, 512)", NO);
        start(9);
        for (int k = 2; k < Stage.MOST_CALLS; k++) {
            given("value(2, " + k + ", " + k + ")");
        }
        does("valueOf(2, 511)", 511);
    }

    private static void partners() {
        term(2, "PARTNERS 0 .. n - 1, n 1 .. 9 (1 at first).");
        fresh();
        leaves("told(0)", 1);
        leaves("weight(1, 0)", NONE);
        leaves("weight(-1, 0)", NONE);
        does("weight(0, 1)", 0);
        leaves("partners(0)", BAD);
        does("partners(1)", 1);
        leaves("weight(1, 0)", NONE);
        does("weight(0, 1)", 0);
        leaves("partners(10)", BAD);
        does("partners(9)", 9);
        does("weight(8, 1)", 0);
        leaves("weight(9, 1)", NONE);
    }

    private static void sets() {
        term(4, "A SET of them is told by bits.");
        start(3);
        weigh(1, 1, 2, 4);
        given("make(0, 1)");
        for (int set = 0; set < 8; set++) {
            leaves("valueOf(0, " + set + ")", set);
        }
        leavesEach("valueOf(0, #)", NO, WRONG_SETS);
        start(1, 5);
        leaves("valueOf(0, 0)", 0);
        leaves("valueOf(0, 1)", 5);
        leaves("valueOf(0, 2)", NO);
        start(9);
        does("value(0, 511, 5)", 1);
        leaves("valueOf(0, 511)", 5);
        leaves("valueOf(0, 512)", NO);
    }

    private static void values() {
        term(4, "A GAME: each SET has a VALUE (long; 0 of the empty one always); all 0 at first.");
        fresh();
        for (int game = 0; game < 4; game++) {
            holds(game, 0, 0);
        }
        start(2);
        for (int game = 0; game < 4; game++) {
            holds(game, 0, 0, 0, 0);
        }
        given("quota(0, 0)", "quota(1, 9999)");
        leaves("value(0, 0, 1)", NONE);
        given("make(0, 0)");
        holds(0, 0, 1, 1, 1);
        given("make(0, 4)");
        holds(0, 0, 9999, 9999, 9999);
        given("dual(0)");
        holds(0, 0, 0, 0, 9999);
        leaves("unanimous(0, 0, 1)", BAD);
        given("unanimous(0, 1, -7)");
        holds(0, 0, -7, 0, 9992);
        reads(0, "=1", -100);
        holds(0, 0, -7, 0, 9992);
        given("times(0, -3)", "cover(0)");
        holds(0, 0, 21, 0, 21);
        given("pairs(0, 3, 3)", "add(0, 0)");
        holds(0, 0, 2, 2, 4);
    }

    private static void games() {
        term(3, "GAMES 0 .. 3 are there, all of the same n; a call tells which.");
        for (int n = 1; n <= 3; n++) {
            start(n);
            for (int game = 0; game < 4; game++) {
                does("value(" + game + ", " + ((1 << n) - 1) + ", " + (game + 5) + ")", 1);
                leaves("value(" + game + ", " + (1 << n) + ", 1)", NONE);
            }
            for (int game = 0; game < 4; game++) {
                leaves("valueOf(" + game + ", " + ((1 << n) - 1) + ")", game + 5);
            }
            leavesEach("value(#, 1, 1)", NONE, WRONG_GAMES);
        }
    }

    private static void beyond() {
        term(3, "A VALUE is told by -10^12 .. 10^12;");
        start(2);
        does("value(0, 3, 1000000000000)", 1);
        does("value(0, 2, -1000000000000)", 1);
        leavesEach("value(0, 3, #)", BAD, "1000000000001", "-1000000000001", "MAX", "MIN");
        holds(0, 0, 0, -1000000000000L, 1000000000000L);
        term(16, "one that comes of calls may be any long;");
        start(1);
        least(0, 1);
        leaves("valueOf(0, 1)", Long.MIN_VALUE);
        start(1);
        greatest(0, 1);
        leaves("valueOf(0, 1)", Long.MAX_VALUE);
        term(16, "OVER (-6): one that would be beyond is refused, nothing is changed.");
        values(3, 1);
        leaves("add(0, 3)", OVER);
        leaves("add(0, 0)", OVER);
        leaves("times(0, 2)", OVER);
        leaves("unanimous(0, 1, 1)", OVER);
        start(1);
        least(0, 1);
        leaves("times(0, -1)", OVER);
        leaves("unanimous(0, 1, -1)", OVER);
        start(2);
        least(0, 3);
        does("dual(0)", 1);
        holds(0, 0, Long.MIN_VALUE, Long.MIN_VALUE, Long.MIN_VALUE);
        start(2);
        least(0, 1);
        leaves("dual(0)", OVER);
        startLarge(2, 4, 4, 0);
        leaves("cover(0)", OVER);
    }

    private static void weights() {
        term(5, "WEIGHTS of PARTNERS: 0 .. 1000 (0 at first);");
        start(9);
        for (int p = 0; p < 9; p++) {
            leaves("told(" + (10 + p) + ")", 0);
        }
        does("weight(0, 1000)", 0);
        does("weight(8, 1000)", 0);
        does("weight(8, 0)", 1000);
        leavesEach("weight(8, #)", BAD, "-1", "1001", "IMIN", "IMAX");
        term(6, "a QUOTA 0 .. 9999 (1 at first).");
        fresh();
        leaves("told(1)", 1);
        does("quota(0, 9999)", 1);
        does("quota(0, 0)", 9999);
        leavesEach("quota(0, #)", BAD, "-1", "10000", "IMIN", "IMAX");
    }

    private static void votes() {
        term(36, "A VOTE: a SET whose WEIGHTS, added up, are QUOTA or more WINS.");
        start(2);
        weigh(7, 3, 4);
        leaves("votes(0)", 1);
        given("quota(0, 8)");
        leaves("votes(0)", 0);
        given("quota(0, 4)");
        leaves("votes(0)", 2);
        given("quota(0, 3)");
        leaves("votes(0)", 3);
        given("quota(0, 1)");
        leaves("votes(0)", 3);
        given("quota(0, 0)");
        leaves("votes(0)", 4);
        start(9);
        weigh(9000, 1000, 1000, 1000, 1000, 1000, 1000, 1000, 1000, 1000);
        leaves("votes(0)", 1);
        given("quota(0, 9001)");
        leaves("votes(0)", 0);
    }

    private static void edges() {
        term(7, "EDGES between two PARTNERS have a WORTH (-9999 .. 9999; none at first).");
        start(3);
        leaves("told(3)", 0);
        leaves("worth(0, 1)", NO);
        leaves("worth(0, 2)", NO);
        leaves("worth(1, 2)", NO);
        does("edge(0, 1, -9999)", 1);
        does("edge(0, 2, 9999)", 1);
        does("edge(1, 2, 0)", 1);
        leaves("worth(0, 1)", -9999);
        leaves("worth(0, 2)", 9999);
        leaves("worth(1, 2)", 0);
        leaves("told(3)", 3);
        leavesEach("edge(0, 1, #)", BAD, "-10000", "10000", "IMIN", "IMAX");
        leaves("edge(1, 1, 1)", NONE);
    }

    private static void unions() {
        term(9, "UNIONS: each PARTNER is in one (0 .. 8; its own number at first);");
        start(9);
        for (int p = 0; p < 9; p++) {
            leaves("union(" + p + ")", p);
        }
        leaves("told(4)", 9);
        term(9, "UNIONS are told by the least of their PARTNERS.");
        does("unite(8, 7)", 7);
        leaves("union(8)", 7);
        does("unite(3, 8)", 3);
        leaves("union(7)", 3);
        leaves("union(8)", 3);
        does("unite(3, 0)", 0);
        leaves("union(8)", 7);
        does("unite(7, 7)", 7);
        leaves("union(8)", 8);
        leaves("told(4)", 8);
    }

    private static void madeByVote() {
        term(13, "MADE into a GAME: by VOTE: 1 of a SET that WINS (not the empty one), else 0.");
        start(2, 9, 9, 9);
        weigh(4, 3, 4);
        does("make(0, 0)", 2);
        holds(0, 0, 0, 1, 1);
        given("quota(0, 0)");
        does("make(0, 0)", 3);
        holds(0, 0, 1, 1, 1);
        given("quota(0, 8)");
        does("make(0, 0)", 0);
        holds(0, 0, 0, 0, 0);
    }

    private static void madeByWeights() {
        term(13, "By WEIGHTS: these added up.");
        start(3, EXAMPLE);
        does("make(0, 1)", 0);
        holds(0, 0, 0, 0, 0, 0, 0, 0, 0);
        weigh(1, 1000, 0, 999);
        does("make(0, 1)", 6);
        holds(0, 0, 1000, 0, 1000, 999, 1999, 999, 1999);
        start(9);
        weigh(1, 1000, 1000, 1000, 1000, 1000, 1000, 1000, 1000, 1000);
        does("make(3, 1)", 511);
        leaves("valueOf(3, 511)", 9000);
    }

    private static void madeByEdges() {
        term(13, "By EDGES: the WORTHS of those within the SET, added up.");
        start(3, EXAMPLE);
        does("make(0, 2)", 0);
        holds(0, 0, 0, 0, 0, 0, 0, 0, 0);
        given("edge(0, 1, 9999)", "edge(2, 1, -9999)");
        does("make(0, 2)", 2);
        holds(0, 0, 0, 0, 9999, 0, 0, -9999, 0);
        given("edge(0, 2, 0)");
        does("make(0, 2)", 2);
        holds(0, 0, 0, 0, 9999, 0, 0, -9999, 0);
        given("cut(1, 2)");
        does("make(0, 2)", 2);
        holds(0, 0, 0, 0, 9999, 0, 0, 0, 9999);
        start(1, 4);
        does("make(0, 2)", 0);
        holds(0, 0, 0);
        start(9);
        for (int a = 0; a < 9; a++) {
            for (int b = a + 1; b < 9; b++) {
                given("edge(" + a + ", " + b + ", -9999)");
            }
        }
        does("make(0, 2)", 502);
        leaves("valueOf(0, 511)", -36 * 9999);
    }

    private static void madeByHeaviest() {
        term(13, "By HEAVIEST: the greatest WEIGHT in it.");
        start(3, EXAMPLE);
        does("make(0, 3)", 0);
        holds(0, 0, 0, 0, 0, 0, 0, 0, 0);
        weigh(1, 5, 5, 1000);
        does("make(0, 3)", 7);
        holds(0, 0, 5, 5, 5, 1000, 1000, 1000, 1000);
        given("weight(0, 0)");
        does("make(0, 3)", 6);
        holds(0, 0, 0, 5, 5, 1000, 1000, 1000, 1000);
    }

    private static void madeByPairs() {
        term(14, "By PAIRS a, b (bits): the lesser of how many of a, and how many of b, it has (those in both count in"
            + " both).");
        start(3, EXAMPLE);
        does("pairs(0, 1, 6)", 3);
        holds(0, 0, 0, 0, 1, 0, 1, 0, 1);
        does("pairs(0, 7, 7)", 7);
        holds(0, 0, 1, 1, 2, 1, 2, 2, 3);
        does("pairs(0, 3, 6)", 5);
        holds(0, 0, 0, 1, 1, 0, 1, 1, 2);
        does("pairs(0, 0, 7)", 0);
        does("pairs(0, 7, 0)", 0);
        does("pairs(0, 0, 0)", 0);
        holds(0, 0, 0, 0, 0, 0, 0, 0, 0);
    }

    private static void madeByClaims() {
        term(13, "By CLAIMS: ESTATE less the WEIGHTS of all others, added up, if that is above 0, else 0 (not the"
            + " empty one);");
        start(2, 9, 9, 9);
        weigh(1, 3, 4);
        does("make(0, 4)", 0);
        holds(0, 0, 0, 0, 0);
        given("quota(1, 4)");
        does("make(0, 4)", 2);
        holds(0, 0, 0, 1, 4);
        given("quota(1, 5)");
        does("make(0, 4)", 3);
        holds(0, 0, 1, 2, 5);
        given("quota(1, 8)");
        does("make(0, 4)", 3);
        holds(0, 0, 4, 5, 8);
        term(6, "ESTATE: 0 .. 9999 (0 at first).");
        fresh();
        leaves("told(2)", 0);
        does("quota(1, 9999)", 0);
        does("quota(1, 0)", 9999);
        leavesEach("quota(1, #)", BAD, "-1", "10000", "IMIN", "IMAX");
    }
}
