/** Promises 49 to 54: rows, the image. */
public final class RowsTest {
    private static final long NO = PartnerWorth.NO;

    public static void main(String[] args) {
        promise49();
        promise50();
        promise51();
        promise52();
        promise52Refused();
        promise53();
        promise54();
        promise54Stays();
        Check.end();
    }

    private static void promise49() {
        PartnerWorth x = new PartnerWorth();
        Check.due("row(3, 20)", x.row(3, 20), 1);
        Check.due("the last place", x.get(3, 19), 0);
        Check.due("none behind it", x.get(3, 20), NO);
        x.set(3, 0, 5);
        Check.due("row(3, 21)", x.row(3, 21), -2);
        Check.due("row(3, -1)", x.row(3, -1), -14);
        Check.due("row(3, least)", x.row(3, Integer.MIN_VALUE), -14);
        Check.due("it stays", x.get(3, 0), 5);
        Check.due("row(3, 2)", x.row(3, 2), 1);
        Check.due("all 0", x.get(3, 0), 0);
        Check.due("two places", x.get(3, 2), NO);
        Check.due("row(3, 0)", x.row(3, 0), 1);
        Check.due("no places", x.get(3, 0), NO);
        Check.due("but something is there", x.set(3, 0, 1), -13);
        Check.due("row(4, 1)", x.row(4, 1), -1);
        Check.due("row(-1, 1)", x.row(-1, 1), -1);
        Check.due("NONE ahead of BAD", x.row(4, 21), -1);
        Check.due("NONE ahead of BELOW", x.row(-1, -1), -1);
        Check.due("the others hold nothing", x.set(0, 0, 1), -11);
    }

    private static void promise50() {
        PartnerWorth x = new PartnerWorth();
        Check.due("nothing there", x.set(0, 0, 1), -11);
        Check.due("NOTHING ahead of BEYOND", x.set(0, -1, 1), -11);
        x.row(0, 3);
        Check.due("set(0, 2, least)", x.set(0, 2, Long.MIN_VALUE), 1);
        Check.due("set(0, 0, greatest)", x.set(0, 0, Long.MAX_VALUE), 1);
        Check.due("set(0, 3, 1)", x.set(0, 3, 1), -13);
        Check.due("set(0, -1, 1)", x.set(0, -1, 1), -13);
        Check.due("set(0, greatest, 1)", x.set(0, Integer.MAX_VALUE, 1), -13);
        Check.due("set(4, 0, 1)", x.set(4, 0, 1), -1);
        Check.due("set(-1, 0, 1)", x.set(-1, 0, 1), -1);
        Check.due("get(0, 0)", x.get(0, 0), Long.MAX_VALUE);
        Check.due("get(0, 1)", x.get(0, 1), 0);
        Check.due("get(0, 2)", x.get(0, 2), Long.MIN_VALUE);
    }

    private static void promise51() {
        PartnerWorth x = new PartnerWorth();
        Check.tell(x, 1, 11, -12);
        Check.due("get(1, 0)", x.get(1, 0), 11);
        Check.due("get(1, 1)", x.get(1, 1), -12);
        Check.due("get(1, 2)", x.get(1, 2), NO);
        Check.due("get(1, -1)", x.get(1, -1), NO);
        Check.due("get(1, greatest)", x.get(1, Integer.MAX_VALUE), NO);
        Check.due("get(0, 0)", x.get(0, 0), NO);
        Check.due("get(4, 0)", x.get(4, 0), NO);
        Check.due("get(-1, 0)", x.get(-1, 0), NO);
    }

    private static long[] longs(PartnerWorth x, int row, int n) {
        long[] found = new long[n];
        for (int i = 0; i < n; i++) {
            found[i] = x.get(row, i);
        }
        return found;
    }

    private static void promise52() {
        PartnerWorth x = Check.of(3, 1, 2, 6, 3, 7, 9, 20);
        Check.tell(x, 2, 9, 9, 9, 9, 9);
        Check.due("lay(2, 1, 0)", x.lay(2, 1, 0), 3);
        Check.due("cut", longs(x, 2, 5), 9, 5, 6, 7, 9);
        x.times(0, -1);
        Check.due("lay(2, 2, 0)", x.lay(2, 2, 0), 3);
        Check.due("cut toward 0", longs(x, 2, 5), 9, 5, -5, -6, -7);
        Check.due("lay(2, 0, 1) of nothing", x.lay(2, 0, 1), 3);
        Check.due("all 0", longs(x, 2, 5), 0, 0, 0, -6, -7);
        Check.due("lay(2, 4, 0)", x.lay(2, 4, 0), -13);
        Check.due("the first is there", longs(x, 2, 5), 0, 0, 0, -6, -5);
        Check.due("lay(2, 3, 0)", x.lay(2, 3, 0), -13);
        Check.due("the first two are there", longs(x, 2, 5), 0, 0, 0, -5, -6);
        Check.due("lay(2, 5, 0)", x.lay(2, 5, 0), -13);
        Check.due("lay(2, -1, 0)", x.lay(2, -1, 0), -13);
        Check.due("lay(2, least, 0)", x.lay(2, Integer.MIN_VALUE, 0), -13);
        Check.due("lay(2, greatest, 0)", x.lay(2, Integer.MAX_VALUE, 0), -13);
        Check.due("none of them", longs(x, 2, 5), 0, 0, 0, -5, -6);
        x.row(2, 0);
        Check.due("lay into no places", x.lay(2, 0, 0), -13);
    }

    private static void promise52Refused() {
        PartnerWorth x = Check.of(2, 5, 5, 1);
        Check.doubled(x, 0, 60);
        Check.due("NOTHING ahead of OVER", x.lay(0, 0, 0), -11);
        Check.tell(x, 0, 4, 4);
        x.value(0, 2, 0);
        x.value(0, 3, 1L << 39);
        Check.due("it fits", x.lay(0, 0, 0), 2);
        x.value(1, 1, 5);
        x.value(1, 3, 5);
        Check.doubled(x, 1, 60);
        Check.tell(x, 0, 4, 4);
        Check.due("the first is beyond", x.lay(0, 0, 1), -6);
        x.swap(1, 0, 1);
        Check.due("the last is beyond", x.lay(0, 0, 1), -6);
        Check.due("OVER ahead of BEYOND", x.lay(0, -1, 1), -6);
        Check.due("none of them is there", longs(x, 0, 2), 4, 4);
        Check.due("lay(4, 0, 0)", x.lay(4, 0, 0), -1);
        Check.due("lay(-1, 0, 0)", x.lay(-1, 0, 0), -1);
        Check.due("lay(0, 0, 4)", x.lay(0, 0, 4), -1);
        Check.due("lay(0, 0, -1)", x.lay(0, 0, -1), -1);
        Check.due("NONE ahead of NOTHING", x.lay(1, 0, 4), -1);
    }

    private static void promise53() {
        PartnerWorth x = Check.of(4);
        Check.due("image()", x.image(), 4);
        x.partners(6);
        Check.due("image() anew", x.image(), 6);
        x.partners(2);
        Check.due("the latest counts", x.undo(), 6);
        Check.due("image() changes nothing", x.told(0), 6);
    }

    private static void promise54() {
        PartnerWorth x = Check.of(3, 1, 2, 6, 3, 7, 9, 20);
        Check.due("undo() of nothing", x.undo(), -3);
        x.copy(3, 0);
        Check.weigh(x, 7, 4, 5, 6);
        x.quota(1, 8);
        x.edge(0, 2, 9);
        x.unite(2, 1);
        Check.due("image()", x.image(), 3);
        x.value(3, 7, 1);
        x.times(0, 0);
        x.weight(2, 0);
        x.quota(0, 1);
        x.quota(1, 1);
        x.edge(0, 1, 1);
        x.edge(0, 2, 1);
        x.unite(2, 2);
        x.unite(0, 1);
        Check.due("undo()", x.undo(), 3);
        dueAsTaken(x);
        x.partners(9);
        Check.due("undo() again", x.undo(), 3);
        dueAsTaken(x);
        x.value(0, 7, 3);
        Check.due("and again", x.undo(), 3);
        dueAsTaken(x);
    }

    private static void dueAsTaken(PartnerWorth x) {
        long[] told = {3, 7, 8, 1, 2, 0, 0, 15, -1, -1, 4, 5, 6, -1};
        for (int what = 0; what < told.length; what++) {
            Check.due("told(" + what + ")", x.told(what), told[what]);
        }
        Check.due("values", Check.values(x, 0), 0, 1, 2, 6, 3, 7, 9, 20);
        Check.due("values", Check.values(x, 1), 0, 0, 0, 0, 0, 0, 0, 0);
        Check.due("values", Check.values(x, 3), 0, 1, 2, 6, 3, 7, 9, 20);
        Check.due("worth(0, 2)", x.worth(0, 2), 9);
        Check.due("worth(0, 1)", x.worth(0, 1), NO);
        Check.due("union(0)", x.union(0), 0);
        Check.due("union(1)", x.union(1), 1);
        Check.due("union(2)", x.union(2), 1);
    }

    private static void promise54Stays() {
        PartnerWorth x = Check.of(2, 1, 2, 3);
        x.image();
        x.feed('a');
        Check.tell(x, 0, 6);
        x.spell(0);
        x.partners(5);
        Check.due("undo()", x.undo(), 2);
        Check.due("the tape stays", x.told(5), 1);
        Check.due("the paper stays", x.told(6), 3);
        Check.due("rows stay", x.get(0, 0), 6);
        x.clear();
        x.row(0, 2);
        x.spell(1);
        x.undo();
        Check.due("the tape stays empty", x.told(5), 0);
        Check.due("rows stay as told later", x.get(0, 0), 0);
        Check.dueText("the paper stays as told later", Check.paper(x), "0 0");
    }
}
