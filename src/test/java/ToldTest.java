/** Promises 1 to 12: what is told. */
public final class ToldTest {
    private static final long TRILLION = 1000000000000L;

    public static void main(String[] args) {
        promise01();
        promise02();
        promise02Keeps();
        promise03();
        promise04();
        promise05();
        promise06();
        promise07();
        promise08();
        promise09();
        promise10();
        promise11();
        promise12();
        promise12Faults();
        Check.end();
    }

    private static void promise01() {
        PartnerWorth x = new PartnerWorth();
        Check.due("new: told(0)", x.told(0), 1);
        Check.due("new: told(1)", x.told(1), 1);
        Check.due("new: told(2)", x.told(2), 0);
        Check.due("new: told(3)", x.told(3), 0);
        Check.due("new: told(4)", x.told(4), 1);
        Check.due("new: told(5)", x.told(5), 0);
        Check.due("new: told(6)", x.told(6), 0);
        Check.due("new: told(7)", x.told(7), 0);
        Check.due("new: undo()", x.undo(), -3);
        for (int game = 0; game < 4; game++) {
            Check.due("new: values", Check.values(x, game), 0, 0);
            Check.due("new: no second partner", x.valueOf(game, 2), PartnerWorth.NO);
        }
        for (int row = 0; row < 4; row++) {
            Check.due("new: get(" + row + ", 0)", x.get(row, 0), PartnerWorth.NO);
            Check.due("new: set(" + row + ", 0, 1)", x.set(row, 0, 1), -11);
        }
        Check.due("NONE", PartnerWorth.NONE, -1);
        Check.due("BAD", PartnerWorth.BAD, -2);
        Check.due("STATE", PartnerWorth.STATE, -3);
        Check.due("FULL", PartnerWorth.FULL, -4);
        Check.due("OVER", PartnerWorth.OVER, -6);
        Check.due("NO", PartnerWorth.NO, Long.MIN_VALUE);
    }

    private static void promise02() {
        PartnerWorth x = new PartnerWorth();
        Check.due("partners(9)", x.partners(9), 9);
        Check.due("partners(0)", x.partners(0), -2);
        Check.due("partners(10)", x.partners(10), -2);
        Check.due("partners(-1)", x.partners(-1), -2);
        Check.due("partners(least)", x.partners(Integer.MIN_VALUE), -2);
        Check.due("n stays by BAD", x.told(0), 9);
        for (int game = 0; game < 4; game++) {
            x.value(game, 511, 7);
        }
        Check.weigh(x, 5, 1, 2, 3);
        x.quota(1, 6);
        x.edge(0, 8, 3);
        x.unite(3, 1);
        Check.due("partners(1)", x.partners(1), 1);
        Check.due("partners(9) again", x.partners(9), 9);
        Check.due("quota as at first", x.told(1), 1);
        Check.due("estate as at first", x.told(2), 0);
        Check.due("edges as at first", x.told(3), 0);
        Check.due("unions as at first", x.told(4), 9);
        Check.due("weights as at first", x.told(7), 0);
        for (int game = 0; game < 4; game++) {
            Check.due("values as at first", x.valueOf(game, 511), 0);
        }
        Check.due("union of 3 as at first", x.union(3), 3);
    }

    private static void promise02Keeps() {
        PartnerWorth x = Check.of(2, 1, 2, 5);
        x.image();
        Check.tell(x, 2, 8, 9);
        x.feed('a');
        x.feed('b');
        x.spell(0);
        x.partners(3);
        Check.due("the tape stays", x.told(5), 2);
        Check.dueText("the paper stays", Check.paper(x), "2 3");
        Check.due("a row stays", x.get(2, 1), 9);
        Check.due("the image stays", x.undo(), 2);
        Check.due("its values too", Check.values(x, 0), 0, 1, 2, 5);
    }

    private static void promise03() {
        PartnerWorth x = Check.of(2);
        Check.due("value(3, 3, trillion)", x.value(3, 3, TRILLION), 1);
        Check.due("value(3, 2, -trillion)", x.value(3, 2, -TRILLION), 1);
        Check.due("value above", x.value(3, 3, TRILLION + 1), -2);
        Check.due("value below", x.value(3, 3, -TRILLION - 1), -2);
        Check.due("value least", x.value(3, 3, Long.MIN_VALUE), -2);
        Check.due("value of the empty set", x.value(3, 0, 1), -1);
        Check.due("value of no set", x.value(3, 4, 1), -1);
        Check.due("value of set -1", x.value(3, -1, 1), -1);
        Check.due("value of game 4", x.value(4, 1, 1), -1);
        Check.due("value of game -1", x.value(-1, 1, 1), -1);
        Check.due("NONE ahead of BAD", x.value(0, 4, TRILLION + 1), -1);
        Check.due("values", Check.values(x, 3), 0, 0, -TRILLION, TRILLION);
        Check.due("the other games stay", Check.values(x, 0), 0, 0, 0, 0);
    }

    private static void promise04() {
        PartnerWorth x = Check.of(3, 1, 2, 3, 4, 5, 6, 7);
        for (int set = 0; set < 8; set++) {
            Check.due("valueOf(0, " + set + ")", x.valueOf(0, set), set);
        }
        Check.due("valueOf(0, 8)", x.valueOf(0, 8), PartnerWorth.NO);
        Check.due("valueOf(0, -1)", x.valueOf(0, -1), PartnerWorth.NO);
        Check.due("valueOf(4, 1)", x.valueOf(4, 1), PartnerWorth.NO);
        Check.due("valueOf(-1, 1)", x.valueOf(-1, 1), PartnerWorth.NO);
        Check.due("valueOf(1, 7)", x.valueOf(1, 7), 0);
    }

    private static void promise05() {
        PartnerWorth x = Check.of(2);
        Check.due("weight(1, 1000)", x.weight(1, 1000), 0);
        Check.due("weight(1, 0)", x.weight(1, 0), 1000);
        Check.due("weight(1, 5)", x.weight(1, 5), 0);
        Check.due("weight(1, 1001)", x.weight(1, 1001), -2);
        Check.due("weight(1, -1)", x.weight(1, -1), -2);
        Check.due("weight(2, 1)", x.weight(2, 1), -1);
        Check.due("weight(-1, 1)", x.weight(-1, 1), -1);
        Check.due("NONE ahead of BAD", x.weight(2, 1001), -1);
        Check.due("it stays by BAD", x.told(11), 5);
        Check.due("the other's", x.told(10), 0);
    }

    private static void promise06() {
        PartnerWorth x = new PartnerWorth();
        Check.due("quota(0, 9999)", x.quota(0, 9999), 1);
        Check.due("quota(0, 0)", x.quota(0, 0), 9999);
        Check.due("quota(0, 10000)", x.quota(0, 10000), -2);
        Check.due("quota(0, -1)", x.quota(0, -1), -2);
        Check.due("quota(1, 9999)", x.quota(1, 9999), 0);
        Check.due("quota(1, 3)", x.quota(1, 3), 9999);
        Check.due("quota(1, 10000)", x.quota(1, 10000), -2);
        Check.due("quota(1, -1)", x.quota(1, -1), -2);
        Check.due("quota(2, 1)", x.quota(2, 1), -1);
        Check.due("quota(-1, 1)", x.quota(-1, 1), -1);
        Check.due("NONE ahead of BAD", x.quota(2, -1), -1);
        Check.due("quota", x.told(1), 0);
        Check.due("estate", x.told(2), 3);
    }

    private static void promise07() {
        PartnerWorth x = Check.of(3);
        Check.due("edge(0, 2, 0)", x.edge(0, 2, 0), 1);
        Check.due("edge(0, 2, 0) again", x.edge(0, 2, 0), 0);
        Check.due("the same told from the other end", x.edge(2, 0, 0), 0);
        Check.due("edge(2, 0, 9999)", x.edge(2, 0, 9999), 1);
        Check.due("edge(1, 2, -9999)", x.edge(1, 2, -9999), 1);
        Check.due("edge(1, 2, -10000)", x.edge(1, 2, -10000), -2);
        Check.due("edge(1, 2, 10000)", x.edge(1, 2, 10000), -2);
        Check.due("edge(1, 1, 1)", x.edge(1, 1, 1), -1);
        Check.due("edge(0, 3, 1)", x.edge(0, 3, 1), -1);
        Check.due("edge(3, 0, 1)", x.edge(3, 0, 1), -1);
        Check.due("edge(-1, 0, 1)", x.edge(-1, 0, 1), -1);
        Check.due("NONE ahead of BAD", x.edge(0, 3, 10000), -1);
        Check.due("BAD with no edge there", x.edge(0, 1, 10000), -2);
        Check.due("edges", x.told(3), 2);
        Check.due("worth(0, 2)", x.worth(0, 2), 9999);
        Check.due("worth(2, 1)", x.worth(2, 1), -9999);
        Check.due("no edge by a least long", x.edge(0, 1, Integer.MIN_VALUE), -2);
    }

    private static void promise08() {
        PartnerWorth x = Check.of(3);
        x.edge(0, 1, 4);
        x.edge(1, 2, 0);
        Check.due("cut(0, 2)", x.cut(0, 2), -3);
        Check.due("cut(2, 1)", x.cut(2, 1), 1);
        Check.due("cut(1, 2)", x.cut(1, 2), -3);
        Check.due("cut(0, 3)", x.cut(0, 3), -1);
        Check.due("cut(-1, 0)", x.cut(-1, 0), -1);
        Check.due("cut(1, 1)", x.cut(1, 1), -1);
        Check.due("edges", x.told(3), 1);
        Check.due("the other edge stays", x.worth(0, 1), 4);
        Check.due("edge(1, 2, 0) anew", x.edge(1, 2, 0), 1);
    }

    private static void promise09() {
        PartnerWorth x = Check.of(5);
        Check.due("unite(4, 2)", x.unite(4, 2), 2);
        Check.due("unite(1, 4)", x.unite(1, 4), 1);
        Check.due("union(2) is told by its least", x.union(2), 1);
        Check.due("union(4)", x.union(4), 1);
        Check.due("unions", x.told(4), 3);
        Check.due("unite(1, 1): it stands alone", x.unite(1, 1), 1);
        Check.due("those left", x.union(4), 2);
        Check.due("unite(2, 3): one goes from one to another", x.unite(2, 3), 2);
        Check.due("the one left", x.union(4), 4);
        Check.due("unite(2, 3) again", x.unite(2, 3), 2);
        Check.due("unite(3, 2): a friend already", x.unite(3, 2), 2);
        Check.due("unite(0, 0)", x.unite(0, 0), 0);
        Check.due("unions", x.told(4), 4);
        Check.due("unite(5, 0)", x.unite(5, 0), -1);
        Check.due("unite(0, 5)", x.unite(0, 5), -1);
        Check.due("unite(-1, 0)", x.unite(-1, 0), -1);
        Check.due("unite(0, -1)", x.unite(0, -1), -1);
        Check.due("unions stay by NONE", x.told(4), 4);
    }

    private static void promise10() {
        PartnerWorth x = new PartnerWorth();
        Check.due("feed(1)", x.feed(1), 1);
        Check.due("feed(127)", x.feed(127), 2);
        Check.due("feed(0)", x.feed(0), -2);
        Check.due("feed(128)", x.feed(128), -2);
        Check.due("feed(-1)", x.feed(-1), -2);
        for (int k = 3; k <= 120; k++) {
            Check.due("feed", x.feed(65), k);
        }
        Check.due("feed on a full tape", x.feed(65), -4);
        Check.due("BAD ahead of FULL", x.feed(128), -2);
        Check.due("bytes", x.told(5), 120);
    }

    private static void promise11() {
        PartnerWorth x = new PartnerWorth();
        Check.due("clear() at first", x.clear(), 0);
        x.feed(65);
        x.feed(66);
        Check.due("clear()", x.clear(), 2);
        Check.due("clear() again", x.clear(), 0);
        Check.due("bytes", x.told(5), 0);
        Check.due("read what is left", x.read(0), -100);
    }

    private static void promise12() {
        PartnerWorth x = Check.of(3);
        Check.due("one part", Check.read(x, 1, "abc=12"), 1);
        Check.due("values", Check.values(x, 1), 0, 0, 0, 0, 0, 0, 0, 12);
        Check.due("in turn", Check.read(x, 1, "b=-7;ac=000000003;b=8;a=-999999999"), 4);
        Check.due("values", Check.values(x, 1), 0, -999999999, 8, 0, 0, 3, 0, 12);
        Check.due("minus nothing", Check.read(x, 1, "b=-0"), 1);
        Check.due("values", Check.values(x, 1), 0, -999999999, 0, 0, 0, 3, 0, 12);
        Check.due("the tape is empty", x.told(5), 0);
        Check.due("the other games stay", Check.values(x, 0), 0, 0, 0, 0, 0, 0, 0, 0);
        x.feed('a');
        Check.due("read(4)", x.read(4), -1);
        Check.due("read(-1)", x.read(-1), -1);
        Check.due("the tape stays by NONE", x.told(5), 1);
        StringBuilder most = new StringBuilder("a=1");
        for (int k = 1; k < 30; k++) {
            most.append(";b=").append(k % 10);
        }
        Check.due("as many parts as can be", Check.read(x, 2, most.toString()), 30);
        Check.due("the last of them", x.valueOf(2, 2), 9);
    }

    private static void promise12Faults() {
        PartnerWorth x = Check.of(3, 1, 2, 3, 4, 5, 6, 7);
        fault(x, "", 0);
        fault(x, "a", 1);
        fault(x, "ab", 2);
        fault(x, "a=", 2);
        fault(x, "a=-", 3);
        fault(x, "a=1;", 4);
        fault(x, "a=1;;b=2", 4);
        fault(x, "a=1,b=2", 3);
        fault(x, "d=1", 0);
        fault(x, "ad=1", 1);
        fault(x, "aa=1", 1);
        fault(x, "cb=1", 1);
        fault(x, "A=1", 0);
        fault(x, "=1", 0);
        fault(x, "1", 0);
        fault(x, "a1", 1);
        fault(x, " a=1", 0);
        fault(x, "a =1", 1);
        fault(x, "a= 1", 2);
        fault(x, "a=1 ", 3);
        fault(x, "a=+1", 2);
        fault(x, "a=--1", 3);
        fault(x, "a=1-", 3);
        fault(x, "a=/", 2);
        fault(x, "a=:", 2);
        fault(x, "a=1a", 3);
        fault(x, "a==1", 2);
        fault(x, "a=1=", 3);
        fault(x, "a=0000000000", 11);
        fault(x, "a=-1234567890", 12);
        fault(x, "b=9;a=8;c=7;j=1", 12);
        fault(x, "b=9;ba=8;d=1", 5);
    }

    private static void fault(PartnerWorth x, String text, int place) {
        Check.due("read of '" + text + "'", Check.read(x, 0, text), -100 - place);
        Check.due("the tape is empty", x.told(5), 0);
        Check.due("a text with a fault does nothing", Check.values(x, 0), 0, 1, 2, 3, 4, 5, 6, 7);
    }
}
