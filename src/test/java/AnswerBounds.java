/** Sentences below the terms: what a refused call answers, which of several, and what is changed by none. */
final class AnswerBounds extends Bound {
    static void all() {
        noneAndBad();
        stateFullOver();
        firstNamed();
        firstNamedOfBeyond();
        laterThanAll();
        changesNothing();
        changesNothingLater();
        asksChangeNothing();
        faultsOfTexts();
        beyondLong();
        constants();
    }

    private static void noneAndBad() {
        term(3, "Answers: NONE (-1) no such number;");
        rich();
        leaves("value(4, 1, 1)", -1);
        leaves("value(0, 8, 1)", -1);
        leaves("weight(3, 1)", -1);
        leaves("quota(2, 1)", -1);
        leaves("paper(14)", -1);
        term(3, "BAD (-2) a number is not as told;");
        leaves("partners(10)", -2);
        leaves("value(0, 1, 1000000000001)", -2);
        leaves("weight(0, 1001)", -2);
        leaves("feed(128)", -2);
        leaves("times(0, 1001)", -2);
    }

    private static void stateFullOver() {
        term(8, "STATE (-3) as told;");
        rich();
        leaves("cut(1, 2)", -3);
        leaves("pivot(0, 1)", -3);
        leaves("stable(0, 3, 0)", -3);
        fresh();
        leaves("undo()", -3);
        term(10, "FULL (-4);");
        feed("a".repeat(120));
        leaves("feed(1)", -4);
        leaves("feed(127)", -4);
        term(17, "OVER (-6);");
        startLarge(1, 4);
        leaves("times(0, 2)", -6);
        leaves("add(0, 0)", -6);
        does("times(0, -2)", 1);
        leaves("times(0, -1)", -6);
    }

    private static void firstNamed() {
        term(3, "the first that a call's words name");
        rich();
        leaves("value(4, 1, 1000000000001)", NONE);
        leaves("value(0, 0, 1000000000001)", NONE);
        leaves("weight(3, 1001)", NONE);
        leaves("quota(2, 10000)", NONE);
        leaves("edge(0, 3, 10000)", NONE);
        leaves("edge(1, 1, 10000)", NONE);
        leaves("cut(0, 3)", NONE);
        leaves("pairs(4, 8, 8)", NONE);
        leaves("times(4, 1001)", NONE);
        leaves("mask(4, 8)", NONE);
        leaves("unanimous(4, 0, 1000000000001)", NONE);
        leaves("pivot(4, -1)", NONE);
        leaves("stable(4, 3, -1)", NONE);
        leaves("stable(0, 4, -1)", NONE);
        leaves("worst(4, 3, -1)", NONE);
        leaves("row(4, 21)", NONE);
        leaves("row(4, -1)", NONE);
        leaves("set(4, -1, 1)", NONE);
        leaves("set(3, -1, 1)", NOTHING);
        leaves("lay(4, -1, 0)", NONE);
        leaves("lay(3, -1, 4)", NONE);
        leaves("lay(3, -1, 0)", NOTHING);
        given("clear()");
        feed("a".repeat(120));
        leaves("feed(0)", BAD);
        leaves("feed(128)", BAD);
    }

    private static void firstNamedOfBeyond() {
        term(52, "the first that a call's words name");
        startLarge(1, 5);
        leaves("unanimous(0, 0, 5)", BAD);
        leaves("times(0, 1001)", BAD);
        leaves("add(0, 4)", NONE);
        leaves("add(4, 0)", NONE);
        startLarge(2, 5, 0, 5);
        leaves("lay(0, 0, 0)", NOTHING);
        given("row(0, 0)");
        leaves("lay(0, 0, 0)", OVER);
        given("row(0, 1)");
        leaves("lay(0, 0, 0)", OVER);
        leaves("lay(0, -1, 0)", OVER);
        leaves("lay(0, -1, 4)", NONE);
        given("swap(0, 0, 1)");
        leaves("lay(0, 0, 0)", OVER);
        tell(1, Long.MAX_VALUE, 1);
        leaves("stable(0, 1, 0)", OVER);
        leaves("stable(0, 1, 1)", STATE);
        leaves("stable(4, 1, 0)", NONE);
        tell(1, Long.MIN_VALUE, Long.MIN_VALUE);
        leaves("worst(0, 1, 0)", OVER);
        leaves("worst(0, 1, 1)", STATE);
        leaves("worst(4, 1, 0)", NONE);
    }

    private static void laterThanAll() {
        term(25, "(-5 is told only where none of them is).");
        rich();
        leaves("differ(0, 0)", NO_SUCH);
        leaves("differ(4, 4)", NONE);
        given("quota(0, 9999)");
        leaves("pivot(0, 0)", NO_SUCH);
        leaves("pivot(0, 1)", STATE);
        leaves("pivot(4, 0)", NONE);
        leaves("votes(2)", NO_SUCH);
        leaves("votes(3)", NONE);
        start(1, 5);
        tell(0, 0);
        leaves("worst(0, 0, 0)", NO_SUCH);
        leaves("worst(0, 0, 1)", STATE);
        leaves("worst(0, 1, 0)", STATE);
        leaves("worst(4, 0, 0)", NONE);
        leaves("worst(0, 4, 0)", NONE);
    }

    private static void changesNothing() {
        term(52, "What is answered so changes nothing (but ROWS by BEYOND, as told);");
        rich();
        leaves("set(1, 5, 7)", BEYOND);
        leaves("lay(1, -1, 0)", BEYOND);
        leaves("lay(1, 5, 0)", BEYOND);
        leaves("row(1, 21)", BAD);
        leaves("row(1, -1)", BELOW);
        does("lay(1, 3, 0)", BEYOND);
        rowHolds(1, 9, 5, 7, 5, 6, NO);
        startLarge(2, 5, 0, 5);
        given("row(0, 2)", "set(0, 0, 3)", "spell(1)");
        leaves("lay(0, 0, 0)", OVER);
        leaves("spell(0)", OVER);
        leaves("add(0, 0)", OVER);
        leaves("dual(4)", NONE);
    }

    /** Each call behind a refused one, by another game, answers as if that had not been. */
    private static void changesNothingLater() {
        term(16, "What is answered so changes nothing");
        startLarge(2, 5, 0, 5);
        tell(0, 1, 0);
        given("row(1, 2)");
        String[] calls = {
            "add(1, 1)", "times(1, 7)", "dual(1)", "cover(1)", "unanimous(1, 3, 0)", "spell(1)", "lay(1, 0, 1)",
            "adds(1, 0, 0, 1)", "share(1, 0, 0)", "power(1, 0)", "owen(1, 0, 0)", "dividend(1, 3)", "kind(1, 0)",
            "kind(1, 1)", "carrier(1)", "is(1, 1)", "is(1, 2)", "stable(1, 1, 0)", "worst(1, 1, 0)",
            "excess(1, 1, 0, 3)",
        };
        long[] due = {1, 1, 1, 0, 1, 3, 2, 0, 0, 0, 0, 0, 3, 3, 0, 1, 1, 1, 1, 0};
        for (int k = 0; k < calls.length; k++) {
            leaves("add(0, 0)", OVER);
            does(calls[k], due[k]);
        }
    }

    private static void asksChangeNothing() {
        term(45, "what is asked changes nothing but THE PAPER, ROWS into which it is LAID.");
        rich();
        does("spell(1)", 14);
        paperHolds("-5/3 -5/3 -5/3");
        does("lay(1, 0, 0)", 3);
        rowHolds(1, 5, 6, 7, 8, 1);
        String[] asked = {
            "valueOf(0, 7)", "differ(0, 1)", "unlike(0)", "adds(0, 0, 0, 1)", "pivot(0, 0)", "share(0, 0, 1)",
            "power(0, 0)", "owen(0, 0, 1)", "dividend(0, 7)", "swings(0, 0)", "swings(0, 1)", "pivots(0, 1)",
            "holder(0, 1)", "votes(0)", "votes(1)", "votes(2)", "kind(0, 0)", "kind(0, 1)", "kind(0, 2)",
            "alike(0, 1)", "carrier(0)", "is(0, 0)", "is(0, 1)", "is(0, 2)", "union(2)", "stable(0, 1, 0)",
            "worst(0, 1, 0)", "excess(0, 1, 0, 3)", "paper(0)", "told(0)", "worth(0, 2)", "get(1, 4)",
        };
        long[] due = {
            20, 1, 8, 4, 1, 3,
            20, 1, 4, 0, 0, 1,
            1, 2, 1, 6, 0, 0, 0,
            2, 7, 1, 1, 1, 1, 0,
            1, -5, '-', 3, 9, 1,
        };
        for (int k = 0; k < asked.length; k++) {
            leaves(asked[k], due[k]);
        }
    }

    private static void faultsOfTexts() {
        term(12, "-100 less the FAULT of a text;");
        fresh();
        reads(0, "", -100);
        reads(0, "b=1", -100);
        reads(0, "a=1;", -104);
        reads(0, "a=1;".repeat(30), -220);
        term(12, "THE TAPE is empty behind each call that reads it.");
        reads(0, "a=5", 1);
        leaves("told(5)", 0);
        does("read(0)", -100);
        reads(0, "a=5x", -103);
        leaves("told(5)", 0);
        does("feed(97)", 1);
        leaves("read(4)", NONE);
        leaves("told(5)", 1);
    }

    private static void beyondLong() {
        term(29, "NO: also where what is asked would be beyond a long (each product and sum, as told, in order).");
        startLarge(2, 4, -2, 1);
        leaves("share(0, 0, 0)", 7 * UNIT / 2);
        leaves("power(0, 0)", 7 * UNIT);
        leaves("owen(0, 0, 0)", 7 * UNIT / 2);
        leaves("dividend(0, 3)", -UNIT);
        startLarge(2, 4, -3, 1);
        leaves("share(0, 0, 0)", NO);
        leaves("share(0, 0, 1)", NO);
        leaves("power(0, 0)", NO);
        leaves("owen(0, 0, 0)", NO);
        leaves("owen(0, 0, 1)", NO);
        startLarge(2, 4, 5, 1);
        leaves("dividend(0, 3)", Long.MIN_VALUE);
        leaves("dividend(0, 2)", 5 * UNIT);
        startLarge(2, 4, 6, 1);
        leaves("dividend(0, 3)", NO);
        startLarge(2, 4, -4, 0);
        tell(0, 1, 0);
        leaves("adds(0, 0, 0, 0)", -4 * UNIT);
        leaves("adds(0, 0, 0, 1)", 4 * UNIT);
        startLarge(2, 4, -4, 4);
        tell(0, 1, 0);
        leaves("adds(0, 0, 0, 1)", NO);
        tell(0, Long.MIN_VALUE, 0);
        leaves("excess(0, 0, 0, 1)", NO);
        leaves("excess(0, 0, 0, 0)", 0);
    }

    private static void constants() {
        term(1, "The constants: `NO = Long.MIN_VALUE`: No such number.");
        Check.due("NO", PartnerWorth.NO, Long.MIN_VALUE);
        Check.due("NONE", PartnerWorth.NONE, -1);
        Check.due("BAD", PartnerWorth.BAD, -2);
        Check.due("STATE", PartnerWorth.STATE, -3);
        Check.due("FULL", PartnerWorth.FULL, -4);
        Check.due("OVER", PartnerWorth.OVER, -6);
        fresh();
        leaves("valueOf(0, 2)", Long.MIN_VALUE);
        leaves("get(0, 0)", Long.MIN_VALUE);
        leaves("worth(0, 0)", Long.MIN_VALUE);
    }
}
