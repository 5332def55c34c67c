/** Promises 42 to 48: told shares, and texts. */
public final class ToldSharesTest {
    private static final long NO = PartnerWorth.NO;
    private static final long UNIT = 1L << 60;

    public static void main(String[] args) {
        promise42();
        promise42Beyond();
        promise43();
        promise43Beyond();
        promise44();
        promise45();
        promise45Beyond();
        promise46();
        promise47();
        promise48();
        Check.end();
    }

    private static PartnerWorth example() {
        return Check.of(3, 1, 2, 6, 3, 7, 9, 20);
    }

    private static int stable(PartnerWorth x, long... shares) {
        Check.tell(x, 1, shares);
        return x.stable(0, 1, 0);
    }

    private static int worst(PartnerWorth x, long... shares) {
        Check.tell(x, 1, shares);
        return x.worst(0, 1, 0);
    }

    private static void promise42() {
        PartnerWorth x = example();
        Check.due("stable", stable(x, 5, 7, 8), 1);
        Check.due("stable, one set has just its value", stable(x, 2, 4, 14), 1);
        Check.due("a set has more", stable(x, 2, 3, 15), 0);
        Check.due("one has more alone", stable(x, 0, 10, 10), 0);
        Check.due("more than there is", stable(x, 5, 7, 9), 0);
        Check.due("less than there is", stable(x, 5, 7, 7), 0);
        Check.tell(x, 2, 9, 5, 7, 8, 1);
        Check.due("from a place on", x.stable(0, 2, 1), 1);
        Check.due("from another", x.stable(0, 2, 2), 0);
        Check.due("it ends ahead", x.stable(0, 2, 3), -3);
        Check.due("far beyond", x.stable(0, 2, Integer.MAX_VALUE), -3);
        Check.due("a place below 0", x.stable(0, 2, -1), -3);
        Check.due("a least place", x.stable(0, 2, Integer.MIN_VALUE), -3);
        Check.due("nothing there", x.stable(0, 3, 0), -3);
        Check.due("row 4", x.stable(0, 4, 0), -1);
        Check.due("row -1", x.stable(0, -1, 0), -1);
        Check.due("game 4", x.stable(4, 2, 0), -1);
        Check.due("game -1", x.stable(-1, 2, 0), -1);
        Check.due("NONE ahead of STATE", x.stable(4, 3, 0), -1);
        PartnerWorth one = Check.of(1, 4);
        Check.due("one alone", stable(one, 4), 1);
        Check.due("one alone with more", stable(one, 5), 0);
    }

    private static void promise42Beyond() {
        PartnerWorth x = Check.of(3);
        Check.due("all of it beyond", stable(x, Long.MAX_VALUE, 1, -1), -6);
        Check.due("below", stable(x, Long.MIN_VALUE, -1, 1), -6);
        Check.due("partners by numbers", stable(x, Long.MAX_VALUE, -1, 1), 0);
        x.value(0, 2, -1);
        Check.doubled(x, 0, 63);
        x.value(0, 7, 5);
        Check.due("a set's is beyond", stable(x, Long.MAX_VALUE, -Long.MAX_VALUE, 5), -6);
        x.value(0, 3, 1);
        Check.due("one looked at ahead of it tells", stable(x, Long.MAX_VALUE, -Long.MAX_VALUE, 5), 0);
        x.value(0, 3, 0);
        x.value(0, 6, 9);
        Check.due("one behind it does not", stable(x, Long.MAX_VALUE, -Long.MAX_VALUE, 5), -6);
    }

    private static void promise43() {
        PartnerWorth x = example();
        Check.due("the least loss", worst(x, 5, 7, 8), 1);
        Check.due("two together", worst(x, 2, 3, 15), 3);
        Check.due("of several the least", worst(x, 6, 6, 8), 2);
        Check.due("all at 0", worst(x, 0, 0, 0), 6);
        Check.tell(x, 2, 9, 5, 7, 8, 1);
        Check.due("from a place on", x.worst(0, 2, 1), 1);
        Check.due("it ends ahead", x.worst(0, 2, 3), -3);
        Check.due("far beyond", x.worst(0, 2, Integer.MAX_VALUE), -3);
        Check.due("a place below 0", x.worst(0, 2, -1), -3);
        Check.due("nothing there", x.worst(0, 3, 0), -3);
        Check.due("row 4", x.worst(0, 4, 0), -1);
        Check.due("row -1", x.worst(0, -1, 0), -1);
        Check.due("game 4", x.worst(4, 2, 0), -1);
        Check.due("game -1", x.worst(-1, 2, 0), -1);
        PartnerWorth one = Check.of(1, 4);
        Check.due("one alone: none", worst(one, 4), -5);
        Check.due("STATE ahead of -5", one.worst(0, 0, 0), -3);
        Check.due("NONE ahead of -5", one.worst(4, 1, 0), -1);
        PartnerWorth low = Check.of(2, -1, -1, 0);
        Check.doubled(low, 0, 63);
        Check.due("the least excess of all is one, too", worst(low, 0, 0), 1);
    }

    private static void promise43Beyond() {
        PartnerWorth x = example();
        Check.due("what is told is beyond", worst(x, Long.MAX_VALUE, 1, 0), -6);
        Check.due("of two that aren't side by side", worst(x, Long.MAX_VALUE, 0, 1), -6);
        long half = Long.MAX_VALUE / 2;
        Check.due("of all of them it doesn't matter", worst(x, half, half, half), 4);
        Check.due("a difference is beyond", worst(x, 0, 0, Long.MIN_VALUE), -6);
        PartnerWorth y = Check.of(2, 0, 0, 1);
        Check.due("all of it isn't looked at", worst(y, Long.MAX_VALUE, Long.MAX_VALUE), 1);
        Check.due("0 less the least long is beyond", worst(y, Long.MIN_VALUE, 0), -6);
        y.value(0, 1, -1);
        Check.due("-1 less the least long fits", worst(y, Long.MIN_VALUE, 0), 1);
    }

    private static void promise44() {
        PartnerWorth x = example();
        Check.tell(x, 1, 9, 5, 7, 8);
        long[] due = {0, -4, -5, -6, -5, -6, -6, 0};
        for (int set = 0; set < 8; set++) {
            Check.due("excess of " + set, x.excess(0, 1, 1, set), due[set]);
        }
        Check.due("from another place", x.excess(0, 1, 0, 1), -8);
        Check.due("set 8", x.excess(0, 1, 0, 8), NO);
        Check.due("set -1", x.excess(0, 1, 0, -1), NO);
        Check.due("it ends ahead", x.excess(0, 1, 2, 1), NO);
        Check.due("a place below 0", x.excess(0, 1, -1, 1), NO);
        Check.due("nothing there", x.excess(0, 0, 0, 1), NO);
        Check.due("row 4", x.excess(0, 4, 0, 1), NO);
        Check.due("row -1", x.excess(0, -1, 0, 1), NO);
        Check.due("game 4", x.excess(4, 1, 0, 1), NO);
        Check.due("game -1", x.excess(-1, 1, 0, 1), NO);
        Check.tell(x, 2, Long.MAX_VALUE, 1, Long.MIN_VALUE + 3);
        Check.due("what is told is beyond", x.excess(0, 2, 0, 3), NO);
        Check.due("on the way, too", x.excess(0, 2, 0, 7), NO);
        Check.due("others fit", x.excess(0, 2, 0, 5), 5);
        Check.due("a difference is beyond", x.excess(0, 2, 0, 4), NO);
        Check.due("a difference fits", x.excess(0, 2, 0, 1), 1 - Long.MAX_VALUE);
    }

    private static void promise45() {
        PartnerWorth x = example();
        Check.due("spell(0)", x.spell(0), 14);
        Check.dueText("the paper", Check.paper(x), "16/3 41/6 47/6");
        x.times(0, -6);
        Check.due("spell(0) of whole ones", x.spell(0), 11);
        Check.dueText("the paper", Check.paper(x), "-32 -41 -47");
        Check.due("spell(1) of nothing", x.spell(1), 5);
        Check.dueText("the paper", Check.paper(x), "0 0 0");
        Check.due("spell(4)", x.spell(4), -1);
        Check.due("spell(-1)", x.spell(-1), -1);
        Check.dueText("the paper stays by NONE", Check.paper(x), "0 0 0");
        x.value(2, 4, -1000000000000L);
        x.spell(2);
        Check.dueText("the paper", Check.paper(x), "500000000000/3 500000000000/3 -1000000000000/3");
        PartnerWorth one = Check.of(1, -10);
        Check.due("spell(0) of one", one.spell(0), 3);
        Check.dueText("the paper", Check.paper(one), "-10");
        one.value(0, 1, 1000000007);
        one.spell(0);
        Check.dueText("the paper", Check.paper(one), "1000000007");
        one.value(0, 1, -1);
        Check.doubled(one, 0, 63);
        Check.due("the least long", one.spell(0), 20);
        Check.dueText("the paper", Check.paper(one), "-9223372036854775808");
        one.value(1, 1, 1);
        one.add(0, 1);
        one.times(0, -1);
        one.spell(0);
        Check.dueText("the greatest long", Check.paper(one), "9223372036854775807");
    }

    private static void promise45Beyond() {
        PartnerWorth x = Check.of(2, 1, 2, 3);
        x.spell(0);
        x.value(1, 1, 5);
        x.value(1, 3, 5);
        Check.doubled(x, 1, 60);
        Check.due("the first share's sum is beyond", x.spell(1), -6);
        x.swap(1, 0, 1);
        Check.due("the last share's sum is beyond", x.spell(1), -6);
        Check.dueText("the paper stays by OVER", Check.paper(x), "1 2");
        PartnerWorth y = Check.of(9);
        y.value(0, 511, 1);
        y.value(0, 1, 1);
        Check.due("long texts", y.spell(0), 43);
        Check.dueText("the paper", Check.paper(y), "2/9 7/72 7/72 7/72 7/72 7/72 7/72 7/72 7/72");
    }

    private static void promise46() {
        PartnerWorth x = Check.of(2, 1, 3, 5);
        Check.due("nothing at first", x.paper(0), -1);
        x.spell(0);
        Check.due("paper(0)", x.paper(0), '3');
        Check.due("paper(1)", x.paper(1), '/');
        Check.due("paper(2)", x.paper(2), '2');
        Check.due("paper(3)", x.paper(3), ' ');
        Check.due("paper(6)", x.paper(6), '2');
        Check.due("paper(7)", x.paper(7), -1);
        Check.due("paper(-1)", x.paper(-1), -1);
        Check.due("paper(greatest)", x.paper(Integer.MAX_VALUE), -1);
        x.spell(1);
        Check.due("a shorter text", x.paper(2), '0');
        Check.due("and no more", x.paper(3), -1);
    }

    private static void promise47() {
        PartnerWorth x = Check.of(3, 1, 2, 6, 3, 7, 9, 20);
        Check.weigh(x, 17, 1000, 3, 5);
        x.quota(1, 19);
        x.edge(0, 1, 0);
        x.edge(2, 1, 7);
        x.unite(2, 0);
        x.feed('a');
        x.spell(0);
        long[] due = {3, 17, 19, 2, 2, 1, 14, 1008, -1, -1, 1000, 3, 5, -1};
        for (int what = 0; what < due.length; what++) {
            Check.due("told(" + what + ")", x.told(what), due[what]);
        }
        Check.due("told(-1)", x.told(-1), -1);
        Check.due("told(least)", x.told(Integer.MIN_VALUE), -1);
        Check.due("told(greatest)", x.told(Integer.MAX_VALUE), -1);
        x.partners(9);
        x.weight(8, 44);
        Check.due("told(18)", x.told(18), 44);
        Check.due("told(19)", x.told(19), -1);
        Check.due("told(7)", x.told(7), 44);
    }

    private static void promise48() {
        PartnerWorth x = Check.of(3);
        x.edge(2, 0, -8);
        x.edge(1, 2, 0);
        Check.due("worth(0, 2)", x.worth(0, 2), -8);
        Check.due("worth(2, 0)", x.worth(2, 0), -8);
        Check.due("worth(2, 1)", x.worth(2, 1), 0);
        Check.due("worth(0, 1)", x.worth(0, 1), NO);
        Check.due("worth(1, 1)", x.worth(1, 1), NO);
        Check.due("worth(0, 3)", x.worth(0, 3), NO);
        Check.due("worth(3, 0)", x.worth(3, 0), NO);
        Check.due("worth(-1, 0)", x.worth(-1, 0), NO);
        x.cut(0, 2);
        Check.due("worth(0, 2), cut", x.worth(0, 2), NO);
    }
}
