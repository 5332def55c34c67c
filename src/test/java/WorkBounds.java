/** Sentences of the terms, part 1: what is worked on games. */
final class WorkBounds extends Bound {
    static void all() {
        sum();
        times();
        dual();
        cover();
        coverBeyond();
        coverParts();
        masked();
        unanimous();
    }

    private static void sum() {
        term(16, "WORKED ON: SUM: VALUES of another GAME come to those of one, SET by SET;");
        start(2, 1, 2, 5);
        values(3, -1, 0, 1000000000000L);
        does("add(0, 3)", 1);
        holds(0, 0, 0, 2, 1000000000005L);
        holds(3, 0, -1, 0, 1000000000000L);
        does("add(0, 0)", 1);
        holds(0, 0, 0, 4, 2000000000010L);
        start(1);
        greatest(0, 1);
        values(2, -1);
        does("add(0, 2)", 1);
        holds(0, 0, Long.MAX_VALUE - 1);
        values(2, 1);
        does("add(0, 2)", 1);
        holds(0, 0, Long.MAX_VALUE);
        leaves("add(0, 2)", OVER);
        start(1);
        least(0, 1);
        values(2, -1);
        leaves("add(0, 2)", OVER);
        values(2, 0);
        does("add(0, 2)", 1);
        holds(0, 0, Long.MIN_VALUE);
        start(2, 1, 2, 3);
        least(1, 3);
        given("add(0, 1)");
        holds(0, 0, 1, 2, Long.MIN_VALUE + 3);
        leaves("add(0, 1)", OVER);
    }

    private static void times() {
        term(17, "TIMES c;");
        start(2, 1, -2, 1000000000000L);
        does("times(0, 1)", 1);
        holds(0, 0, 1, -2, 1000000000000L);
        does("times(0, -1000)", 1);
        holds(0, 0, -1000, 2000, -1000000000000000L);
        does("times(0, 0)", 1);
        holds(0, 0, 0, 0, 0);
        startLarge(2, 2, -2, 1);
        does("times(0, 3)", 1);
        holds(0, 0, 6 * UNIT, -6 * UNIT, 3 * UNIT);
        leaves("times(0, 2)", OVER);
        leaves("times(0, -2)", OVER);
        startLarge(1, -4);
        does("times(0, 2)", 1);
        holds(0, 0, Long.MIN_VALUE);
        leaves("times(0, 2)", OVER);
        leaves("times(0, -1)", OVER);
        leaves("times(0, 1000)", OVER);
        does("times(0, 0)", 1);
        holds(0, 0, 0);
        startLarge(1, 4);
        leaves("times(0, 2)", OVER);
        does("times(0, -2)", 1);
        holds(0, 0, Long.MIN_VALUE);
    }

    private static void dual() {
        term(18, "DUAL: VALUE of all less that of all others than the SET;");
        start(1, 7);
        does("dual(0)", 1);
        holds(0, 0, 7);
        start(3, EXAMPLE);
        does("dual(0)", 1);
        holds(0, 0, 11, 13, 17, 14, 18, 19, 20);
        startLarge(2, 4, 3, -4);
        does("dual(0)", 1);
        holds(0, 0, -7 * UNIT, Long.MIN_VALUE, -4 * UNIT);
        startLarge(2, 5, 3, -4);
        leaves("dual(0)", OVER);
        startLarge(2, -4, 0, 4);
        leaves("dual(0)", OVER);
        startLarge(2, -4, -3, 3);
        does("dual(0)", 1);
        holds(0, 0, 6 * UNIT, 7 * UNIT, 3 * UNIT);
    }

    private static void cover() {
        term(19, "COVER: by numbers of SETS, each becomes the greatest of: VALUE (as it was) of a part of it that"
            + " has its least PARTNER (itself, too), and what the rest of it has become, added up");
        start(1, -7);
        does("cover(0)", 0);
        holds(0, 0, -7);
        start(2, 3, 4, 8);
        does("cover(0)", 0);
        holds(0, 0, 3, 4, 8);
        start(2, 3, 4, 6);
        does("cover(0)", 1);
        holds(0, 0, 3, 4, 7);
        start(3, 1, 1, 0, 1, 0, 0, 0);
        does("cover(0)", 4);
        holds(0, 0, 1, 1, 2, 1, 2, 2, 3);
        start(3, 0, 0, 0, 5, 9, 0, 0);
        does("cover(0)", 2);
        holds(0, 0, 0, 0, 0, 5, 9, 5, 9);
        start(3, -5, -5, -20, -5, -20, -20, -11);
        does("cover(0)", 3);
        holds(0, 0, -5, -5, -10, -5, -10, -10, -11);
        start(9);
        for (int p = 0; p < 9; p++) {
            given("value(0, " + (1 << p) + ", 1)");
        }
        does("cover(0)", 502);
        leaves("valueOf(0, 511)", 9);
    }

    private static void coverBeyond() {
        term(19, "(OVER, if any of these sums is beyond);");
        startLarge(2, 4, 3, 0);
        does("cover(0)", 1);
        holds(0, 0, 4 * UNIT, 3 * UNIT, 7 * UNIT);
        startLarge(2, 4, 4, 0);
        leaves("cover(0)", OVER);
        startLarge(2, -4, -4, 0);
        does("cover(0)", 0);
        holds(0, 0, -4 * UNIT, -4 * UNIT, 0);
        startLarge(2, -4, -5, 0);
        leaves("cover(0)", OVER);
        startLarge(3, 3, 3, 0, 3, 0, 0, 7);
        leaves("cover(0)", OVER);
        startLarge(3, 3, 3, 0, 1, 0, 0, 7);
        does("cover(0)", 3);
        holds(0, 0, 3 * UNIT, 3 * UNIT, 6 * UNIT, UNIT, 4 * UNIT, 4 * UNIT, 7 * UNIT);
    }

    /** A sum beyond that the sentence doesn't tell; and one that it tells, though it could never be the greatest. */
    private static void coverParts() {
        term(19, "VALUE (as it was) of a part of it that has its least PARTNER");
        start(3);
        least(0, 6);
        values(1, -1);
        given("add(0, 1)");
        does("cover(0)", 1);
        holds(0, 0, -1, 0, 0, 0, 0, 0, 0);
        start(3);
        least(0, 3);
        values(1, 0, 0, 0, -1);
        given("add(0, 1)");
        leaves("cover(0)", OVER);
        start(3);
        least(0, 3);
        does("cover(0)", 1);
        holds(0, 0, 0, 0, 0, 0, 0, 0, 0);
    }

    private static void masked() {
        term(20, "MASKED by a SET: VALUE of what it has of that;");
        start(3, EXAMPLE);
        does("mask(0, 7)", 0);
        holds(0, 0, 1, 2, 6, 3, 7, 9, 20);
        does("mask(0, 6)", 4);
        holds(0, 0, 0, 2, 2, 3, 3, 9, 9);
        does("mask(0, 4)", 4);
        holds(0, 0, 0, 0, 0, 3, 3, 3, 3);
        does("mask(0, 0)", 4);
        holds(0, 0, 0, 0, 0, 0, 0, 0, 0);
    }

    private static void unanimous() {
        term(21, "UNANIMOUS: v is added to VALUES of all SETS that have a told one whole (not empty).");
        start(3, EXAMPLE);
        does("unanimous(0, 7, 1000000000000)", 1);
        holds(0, 0, 1, 2, 6, 3, 7, 9, 1000000000020L);
        does("unanimous(0, 1, -1)", 1);
        holds(0, 0, 0, 2, 5, 3, 6, 9, 1000000000019L);
        does("unanimous(0, 6, 2)", 1);
        holds(0, 0, 0, 2, 5, 3, 6, 11, 1000000000021L);
        leaves("unanimous(0, 0, 5)", BAD);
        start(2);
        greatest(0, 3);
        leaves("unanimous(0, 3, 1)", OVER);
        leaves("unanimous(0, 1, 1)", OVER);
        does("unanimous(0, 2, 0)", 1);
        does("unanimous(0, 2, -1)", 1);
        holds(0, 0, 0, -1, Long.MAX_VALUE - 1);
        does("unanimous(0, 1, 1)", 1);
        holds(0, 0, 1, -1, Long.MAX_VALUE);
        start(2);
        least(0, 3);
        leaves("unanimous(0, 3, -1)", OVER);
        does("unanimous(0, 3, 1)", 1);
        holds(0, 0, 0, 0, Long.MIN_VALUE + 1);
    }
}
