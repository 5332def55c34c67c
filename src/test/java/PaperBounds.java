/** Sentences of the terms, part 3: the tape, texts of values and their faults, the paper, rows, the image. */
final class PaperBounds extends Bound {
    static void all() {
        tape();
        texts();
        longestTexts();
        letters();
        faults();
        tooEarly();
        doesNothing();
        paper();
        rows();
        noPlace();
        laid();
        image();
    }

    private static void tape() {
        term(10, "THE TAPE holds 0 .. 120 bytes.");
        fresh();
        leaves("told(5)", 0);
        leaves("read(-1)", NONE);
        for (int k = 1; k <= 120; k++) {
            does("feed(97)", k);
        }
        leaves("told(5)", 120);
        leaves("feed(97)", FULL);
        does("clear()", 120);
        does("feed(97)", 1);
    }

    private static void texts() {
        term(12, "VALUES as a text (no blanks stand anywhere): parts, one or more, parted by ; : a SET (letters a .. i,"
            + " each ahead of the next in the row of letters, one or more; PARTNERS that there are), = , and a number"
            + " (perhaps - ahead, 1 to 9 figures; nine at most are taken).");
        start(3, EXAMPLE);
        reads(0, "", -100);
        reads(0, " ", -100);
        reads(0, " a=1", -100);
        reads(0, "a =1", -101);
        reads(0, "a= 1", -102);
        reads(0, "a=1 ", -103);
        reads(0, "a=1; b=2", -104);
        reads(0, "a=- 1", -103);
        holds(0, 0, 1, 2, 6, 3, 7, 9, 20);
        reads(0, "a=0", 1);
        reads(0, "b=9;c=-8", 2);
        reads(0, "abc=1", 1);
        holds(0, 0, 0, 9, 6, -8, 7, 9, 1);
        reads(0, "a=-999999999", 1);
        reads(0, "b=999999999", 1);
        reads(0, "ab=000000000;ac=-000000007", 2);
        reads(0, "c=-0", 1);
        holds(0, 0, -999999999, 999999999, 0, 0, -7, 9, 1);
        reads(0, "a=1234567890", -111);
        reads(0, "a=0000000000", -111);
        reads(0, "a=-1234567890", -112);
        reads(0, "a=", -102);
        reads(0, "a=-", -103);
        reads(0, "=1", -100);
        holds(0, 0, -999999999, 999999999, 0, 0, -7, 9, 1);
        start(1);
        reads(0, "a=7", 1);
        holds(0, 0, 7);
        start(9);
        reads(3, "abcdefghi=5;i=-6", 2);
        leaves("valueOf(3, 511)", 5);
        leaves("valueOf(3, 256)", -6);
        term(12, "Done in turn to a GAME.");
        start(2, 1, 2, 5);
        reads(0, "a=3;a=4;ab=0;a=-5", 4);
        holds(0, 0, -5, 2, 0);
        holds(1, 0, 0, 0, 0);
    }

    private static void longestTexts() {
        term(12, "parts, one or more, parted by ;");
        start(2);
        reads(0, "a=1;".repeat(29) + "b=10", 30);
        holds(0, 0, 1, 10, 0);
        reads(0, "a=7;".repeat(30), -220);
        reads(0, "a=7;".repeat(29) + "b=1a", -219);
        holds(0, 0, 1, 10, 0);
        start(2);
        reads(0, "a=123456789;".repeat(9) + "ab=-98765432", 10);
        holds(0, 0, 123456789, 0, -98765432);
        reads(0, "b=8;b=9", 2);
        reads(0, ";", -100);
        reads(0, ";a=1", -100);
        reads(0, "a=1;", -104);
        reads(0, "a=1;;a=1", -104);
        holds(0, 0, 123456789, 9, -98765432);
    }

    private static void letters() {
        term(12, "FAULT of a text (the first that is met from the left): of a letter of no PARTNER, or not behind"
            + " the one ahead of it, where it stands;");
        start(3, EXAMPLE);
        reads(0, "d=1", -100);
        reads(0, "ad=1", -101);
        reads(0, "abcd=1", -103);
        reads(0, "i=1", -100);
        reads(0, "aa=1", -101);
        reads(0, "ba=1", -101);
        reads(0, "acb=1", -102);
        reads(0, "abb=1", -102);
        reads(0, "a=1;cb=1;d=1", -105);
        reads(0, "a=1;d=1;cb=1", -104);
        reads(0, "a=1;b=2;abd", -110);
        holds(0, 0, 1, 2, 6, 3, 7, 9, 20);
        start(1);
        reads(0, "b=1", -100);
        reads(0, "ab=1", -101);
        start(9);
        reads(0, "j=1", -100);
        reads(0, "ij=1", -101);
        reads(0, "ii=1", -101);
        reads(0, "ia=1", -101);
        reads(0, "i=1;abcdefghij", -113);
    }

    private static void faults() {
        term(12, "otherwise the place (from 0) of the first byte with which no such text goes on;");
        start(3, EXAMPLE);
        reads(0, "A=1", -100);
        reads(0, "z=1", -100);
        reads(0, "1", -100);
        reads(0, "-", -100);
        reads(0, "a1", -101);
        reads(0, "a;", -101);
        reads(0, "a-", -101);
        reads(0, "aB=1", -101);
        reads(0, "a==1", -102);
        reads(0, "a=+1", -102);
        reads(0, "a=;", -102);
        reads(0, "a=b", -102);
        reads(0, "a=/", -102);
        reads(0, "a=:", -102);
        reads(0, "a=--1", -103);
        reads(0, "a=-;", -103);
        reads(0, "a=1-", -103);
        reads(0, "a=1=", -103);
        reads(0, "a=1a", -103);
        reads(0, "a=1,b=2", -103);
        reads(0, "a=1/2", -103);
        reads(0, "a=1:", -103);
        reads(0, "a=1;1", -104);
        reads(0, "b=999999999;b=9999999999", -123);
        given("feed(1)");
        does("read(0)", -100);
        feed("a=1");
        given("feed(127)");
        does("read(0)", -103);
        holds(0, 0, 1, 2, 6, 3, 7, 9, 20);
    }

    private static void tooEarly() {
        term(12, "the length, if it ends too early.");
        start(3, EXAMPLE);
        reads(0, "", -100);
        reads(0, "a", -101);
        reads(0, "abc", -103);
        reads(0, "a=", -102);
        reads(0, "a=-", -103);
        reads(0, "a=1;", -104);
        reads(0, "a=1;b", -105);
        reads(0, "a=1;b=", -106);
        reads(0, "a=1;b=-", -107);
        reads(0, "a=1;".repeat(29) + "abc=", -220);
        reads(0, "a=1;".repeat(29) + "ab=-", -220);
        holds(0, 0, 1, 2, 6, 3, 7, 9, 20);
    }

    private static void doesNothing() {
        term(12, "A text with a FAULT does nothing.");
        start(3, EXAMPLE);
        reads(0, "a=8;b=8;c=8;", -112);
        holds(0, 0, 1, 2, 6, 3, 7, 9, 20);
        reads(0, "a=8;ab=8x", -108);
        holds(0, 0, 1, 2, 6, 3, 7, 9, 20);
        leaves("told(5)", 0);
        reads(0, "a=8;ab=8", 2);
        holds(0, 0, 8, 2, 8, 3, 7, 9, 20);
    }

    private static void paper() {
        term(45, "SPELLED, a SHARE: its fraction as / stands between (alone, if below is 1).");
        start(1, -7);
        does("spell(0)", 2);
        paperHolds("-7");
        start(2, 0, 1, 0);
        does("spell(0)", 8);
        paperHolds("-1/2 1/2");
        start(3, EXAMPLE);
        does("spell(0)", 14);
        paperHolds("16/3 41/6 47/6");
        given("times(0, 2)");
        does("spell(0)", 14);
        paperHolds("32/3 41/3 47/3");
        start(1);
        least(0, 1);
        does("spell(0)", 20);
        paperHolds("-9223372036854775808");
        start(1);
        greatest(0, 1);
        does("spell(0)", 19);
        paperHolds("9223372036854775807");
        start(9);
        given("value(0, 1, -1000000000000)");
        does("spell(0)", 136);
        paperHolds("-1000000000000/9" + " 125000000000/9".repeat(8));
        term(45, "THE PAPER holds the latest text (nothing at first): SHARES of all, with blanks between.");
        start(2, 1, 2, 5);
        leaves("told(6)", 0);
        leaves("paper(0)", NONE);
        does("spell(0)", 3);
        paperHolds("2 3");
        does("spell(1)", 3);
        paperHolds("0 0");
        leaves("spell(4)", NONE);
        given("partners(1)");
        does("spell(1)", 1);
        paperHolds("0");
        leaves("paper(1)", NONE);
    }

    private static void rows() {
        term(49, "ROWS 0 .. 3 hold nothing (at first) or a row of 0 .. 20 longs.");
        fresh();
        for (int row = 0; row < 4; row++) {
            leaves("set(" + row + ", 0, 1)", NOTHING);
            leaves("get(" + row + ", 0)", NO);
            does("row(" + row + ", 0)", 1);
            leaves("set(" + row + ", 0, 1)", BEYOND);
            leaves("get(" + row + ", 0)", NO);
            does("row(" + row + ", 20)", 1);
            does("set(" + row + ", 19, " + (row + 5) + ")", 1);
            leaves("set(" + row + ", 20, 1)", BEYOND);
        }
        for (int row = 0; row < 4; row++) {
            leaves("get(" + row + ", 19)", row + 5);
            leaves("row(" + row + ", 21)", BAD);
            leaves("row(" + row + ", -1)", BELOW);
        }
        leavesEach("row(#, 1)", NONE, WRONG_ROWS);
        does("set(3, 0, MAX)", 1);
        does("set(3, 1, MIN)", 1);
        rowHolds(3, Long.MAX_VALUE, Long.MIN_VALUE, 0);
    }

    private static void noPlace() {
        term(50, "NOTHING (-11): there is none;");
        start(1);
        leaves("set(0, 0, 1)", NOTHING);
        leaves("set(0, -1, 1)", NOTHING);
        leaves("lay(0, 0, 0)", NOTHING);
        term(50, "BEYOND (-13): no such place;");
        given("row(0, 3)");
        leavesEach("set(0, #, 1)", BEYOND, "-1", "3", "4", "20", "IMIN", "IMAX");
        does("set(0, 0, 1)", 1);
        does("set(0, 2, 1)", 1);
        term(49, "BELOW (-14): a size below 0.");
        leavesEach("row(0, #)", BELOW, "-1", "-2", "-11", "IMIN");
        does("row(0, 0)", 1);
    }

    private static void laid() {
        term(52, "LAID into a ROW from a place on: SHARES of all PARTNERS, cut to whole numbers (toward 0), until a"
            + " place isn't there.");
        start(3, EXAMPLE);
        tell(0, 9, 9, 9, 9, 9);
        does("lay(0, 2, 0)", 3);
        rowHolds(0, 9, 9, 5, 6, 7);
        given("times(0, -1)");
        does("lay(0, 0, 0)", 3);
        rowHolds(0, -5, -6, -7, 6, 7);
        does("lay(0, 3, 0)", BEYOND);
        rowHolds(0, -5, -6, -7, -5, -6);
        does("lay(0, 4, 0)", BEYOND);
        rowHolds(0, -5, -6, -7, -5, -5);
        start(2, 1, 0, 0);
        tell(3, 5, 5);
        does("lay(3, 0, 0)", 2);
        rowHolds(3, 0, 0);
        start(2, 3, 0, 0);
        tell(3, 5, 5);
        does("lay(3, 0, 0)", 2);
        rowHolds(3, 1, -1);
        start(1);
        least(0, 1);
        given("row(0, 1)");
        does("lay(0, 0, 0)", 1);
        rowHolds(0, Long.MIN_VALUE);
        start(9);
        given("value(0, 511, 17)", "row(0, 20)");
        does("lay(0, 11, 0)", 9);
        rowHolds(0, 0, 0, 0, 0, 0, 0, 0, 0, 0, 0, 0, 1, 1, 1, 1, 1, 1, 1, 1, 1);
        given("value(0, 511, 18)");
        does("lay(0, 12, 0)", BEYOND);
        rowHolds(0, 0, 0, 0, 0, 0, 0, 0, 0, 0, 0, 0, 1, 2, 2, 2, 2, 2, 2, 2, 2);
    }

    private static void image() {
        term(54, "THE IMAGE: n, GAMES, WEIGHTS, QUOTA, ESTATE, EDGES, UNIONS (THE TAPE, THE PAPER, ROWS stay by"
            + " undo()).");
        rich();
        given("partners(9)", "value(0, 511, 4)", "feed(61)", "spell(1)", "row(3, 2)", "row(2, 1)", "set(0, 0, 77)");
        does("undo()", 3);
        holds(0, 0, 1, 2, 6, 3, 7, 9, 20);
        holds(1, 0, 0, 0, 0, 0, 0, 0, -5);
        holds(2, 0, 4, 4, 4, 4, 4, 4, 5);
        holds(3, 0, 8, 0, 0, 0, 0, 0, 0);
        long[] due = {3, 9, 8, 1, 2, 5, 17, 15, NONE, NONE, 4, 5, 6, NONE};
        for (int what = 0; what < due.length; what++) {
            leaves("told(" + what + ")", due[what]);
        }
        leaves("worth(0, 2)", 9);
        leaves("worth(0, 1)", NO);
        leaves("union(0)", 0);
        leaves("union(1)", 1);
        leaves("union(2)", 1);
        paperHolds("0 0 0 0 0 0 0 0 0");
        rowHolds(0, 77, 0, 1);
        rowHolds(2, 0, NO);
        rowHolds(3, 0, 0, NO);
        does("read(0)", -104);
    }
}
