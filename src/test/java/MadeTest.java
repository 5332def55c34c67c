/** Promises 13 to 26: games made and worked on. */
public final class MadeTest {
    private static final long TRILLION = 1000000000000L;

    public static void main(String[] args) {
        promise13();
        promise13Edges();
        promise14();
        promise15();
        promise16();
        promise17();
        promise18();
        promise19();
        promise20();
        promise21();
        promise22();
        promise23();
        promise24();
        promise25();
        promise26();
        Check.end();
    }

    private static void promise13() {
        PartnerWorth x = Check.of(3, 9, 9, 9, 9, 9, 9, 9);
        Check.weigh(x, 5, 2, 3, 4);
        x.quota(1, 6);
        Check.due("make(0, 0)", x.make(0, 0), 4);
        Check.due("by vote", Check.values(x, 0), 0, 0, 0, 1, 0, 1, 1, 1);
        Check.due("make(1, 1)", x.make(1, 1), 7);
        Check.due("by weights", Check.values(x, 1), 0, 2, 3, 5, 4, 6, 7, 9);
        Check.due("make(2, 3)", x.make(2, 3), 7);
        Check.due("by heaviest", Check.values(x, 2), 0, 2, 3, 3, 4, 4, 4, 4);
        Check.due("make(3, 4)", x.make(3, 4), 5);
        Check.due("by claims", Check.values(x, 3), 0, 0, 0, 2, 1, 3, 4, 6);
        x.quota(0, 0);
        Check.due("the empty set wins, and has no value", x.make(0, 0), 7);
        Check.due("by vote of quota 0", Check.values(x, 0), 0, 1, 1, 1, 1, 1, 1, 1);
        x.quota(0, 9);
        Check.due("all must stand together", x.make(0, 0), 1);
        x.quota(0, 10);
        Check.due("nobody wins", x.make(0, 0), 0);
        x.quota(1, 9999);
        Check.due("an estate above all claims", x.make(0, 4), 7);
        Check.due("by claims", Check.values(x, 0), 0, 9992, 9993, 9995, 9994, 9996, 9997, 9999);
        Check.due("make(4, 0)", x.make(4, 0), -1);
        Check.due("make(-1, 0)", x.make(-1, 0), -1);
        Check.due("make(0, 5)", x.make(0, 5), -1);
        Check.due("make(0, -1)", x.make(0, -1), -1);
        Check.due("values stay by NONE", x.valueOf(0, 7), 9999);
    }

    private static void promise13Edges() {
        PartnerWorth x = Check.of(3, 9, 9, 9, 9, 9, 9, 9);
        Check.due("no edges", x.make(0, 2), 0);
        x.edge(0, 1, 5);
        x.edge(2, 1, -5);
        x.edge(0, 2, 0);
        Check.due("make(0, 2)", x.make(0, 2), 2);
        Check.due("by edges", Check.values(x, 0), 0, 0, 0, 5, 0, 0, -5, 0);
        x.edge(0, 2, 9999);
        Check.due("make(0, 2) again", x.make(0, 2), 4);
        Check.due("by edges", Check.values(x, 0), 0, 0, 0, 5, 0, 9999, -5, 9999);
    }

    private static void promise14() {
        PartnerWorth x = Check.of(3, 9, 9, 9, 9, 9, 9, 9);
        Check.due("gloves", x.pairs(0, 1, 6), 3);
        Check.due("by pairs", Check.values(x, 0), 0, 0, 0, 1, 0, 1, 0, 1);
        Check.due("one that counts in both", x.pairs(0, 3, 6), 5);
        Check.due("by pairs", Check.values(x, 0), 0, 0, 1, 1, 0, 1, 1, 2);
        Check.due("no hands", x.pairs(0, 0, 7), 0);
        Check.due("all in both", x.pairs(0, 7, 7), 7);
        Check.due("sizes", Check.values(x, 0), 0, 1, 1, 2, 1, 2, 2, 3);
        Check.due("pairs(4, 1, 2)", x.pairs(4, 1, 2), -1);
        Check.due("pairs(-1, 1, 2)", x.pairs(-1, 1, 2), -1);
        Check.due("pairs(0, 8, 1)", x.pairs(0, 8, 1), -2);
        Check.due("pairs(0, 1, 8)", x.pairs(0, 1, 8), -2);
        Check.due("pairs(0, -1, 1)", x.pairs(0, -1, 1), -2);
        Check.due("pairs(0, 1, -1)", x.pairs(0, 1, -1), -2);
        Check.due("NONE ahead of BAD", x.pairs(4, 8, 8), -1);
        Check.due("values stay", x.valueOf(0, 7), 3);
    }

    private static void promise15() {
        PartnerWorth x = Check.of(2, 3, -4, 5);
        Check.due("copy(2, 0)", x.copy(2, 0), 1);
        Check.due("the copy", Check.values(x, 2), 0, 3, -4, 5);
        x.value(0, 1, 8);
        Check.due("what is told later is another's", x.valueOf(2, 1), 3);
        Check.due("copy(0, 0)", x.copy(0, 0), 1);
        Check.due("itself", Check.values(x, 0), 0, 8, -4, 5);
        Check.due("copy(0, 1): of nothing told", x.copy(0, 1), 1);
        Check.due("all 0", Check.values(x, 0), 0, 0, 0, 0);
        Check.due("copy(4, 0)", x.copy(4, 0), -1);
        Check.due("copy(0, 4)", x.copy(0, 4), -1);
        Check.due("copy(-1, 0)", x.copy(-1, 0), -1);
        Check.due("copy(0, -1)", x.copy(0, -1), -1);
    }

    private static void promise16() {
        PartnerWorth x = Check.of(2, 3, -4, 5);
        x.copy(1, 0);
        x.times(1, 10);
        Check.due("add(1, 0)", x.add(1, 0), 1);
        Check.due("the sum", Check.values(x, 1), 0, 33, -44, 55);
        Check.due("the other stays", Check.values(x, 0), 0, 3, -4, 5);
        Check.due("add(1, 1)", x.add(1, 1), 1);
        Check.due("itself", Check.values(x, 1), 0, 66, -88, 110);
        Check.due("add(4, 0)", x.add(4, 0), -1);
        Check.due("add(0, 4)", x.add(0, 4), -1);
        Check.due("add(-1, 0)", x.add(-1, 0), -1);
        Check.due("add(0, -1)", x.add(0, -1), -1);
        PartnerWorth y = Check.of(2, 1, 2, -1);
        Check.doubled(y, 0, 61);
        long half = 1L << 61;
        Check.due("2 to the 62 fits, its double does not", y.add(0, 0), -6);
        Check.due("nothing is changed by OVER", Check.values(y, 0), 0, half, 2 * half, -half);
        y.value(0, 2, 0);
        Check.doubled(y, 0, 1);
        Check.due("just beyond above", y.add(0, 0), -6);
        y.value(0, 1, 0);
        Check.due("the least long fits", y.add(0, 0), 1);
        Check.due("the least long", y.valueOf(0, 3), Long.MIN_VALUE);
        y.value(1, 3, -1);
        Check.due("below the least long", y.add(0, 1), -6);
        y.value(1, 3, 1);
        Check.due("above the least long", y.add(0, 1), 1);
        Check.due("it is", y.valueOf(0, 3), Long.MIN_VALUE + 1);
        Check.due("its opposite fits", y.times(0, -1), 1);
        Check.due("the greatest long", y.valueOf(0, 3), Long.MAX_VALUE);
        Check.due("above the greatest long", y.add(0, 1), -6);
    }

    private static void promise17() {
        PartnerWorth x = Check.of(2, 3, -4, 5);
        Check.due("times(0, -1000)", x.times(0, -1000), 1);
        Check.due("values", Check.values(x, 0), 0, -3000, 4000, -5000);
        Check.due("times(0, 1000)", x.times(0, 1000), 1);
        Check.due("values", Check.values(x, 0), 0, -3000000, 4000000, -5000000);
        Check.due("times(0, 1001)", x.times(0, 1001), -2);
        Check.due("times(0, -1001)", x.times(0, -1001), -2);
        Check.due("times(4, 1)", x.times(4, 1), -1);
        Check.due("times(-1, 1)", x.times(-1, 1), -1);
        Check.due("NONE ahead of BAD", x.times(4, 1001), -1);
        Check.due("times(0, 0)", x.times(0, 0), 1);
        Check.due("values", Check.values(x, 0), 0, 0, 0, 0);
        PartnerWorth y = Check.of(2, 1, 7, -TRILLION);
        y.times(0, 1000);
        y.times(0, 1000);
        Check.due("times(0, 10) is beyond", y.times(0, 10), -6);
        Check.due("times(0, -10) is beyond", y.times(0, -10), -6);
        Check.due("nothing is changed by OVER", Check.values(y, 0), 0, 1000000, 7000000, -TRILLION * 1000000);
        Check.due("times(0, 9)", y.times(0, 9), 1);
        Check.due("times(0, 0)", y.times(0, 0), 1);
        PartnerWorth z = Check.of(1, -1);
        Check.doubled(z, 0, 63);
        Check.due("the least long has no opposite", z.times(0, -1), -6);
        Check.due("times(0, 1) of the least long", z.times(0, 1), 1);
        Check.due("times(0, 2) of the least long", z.times(0, 2), -6);
        Check.due("times(0, 0) of the least long", z.times(0, 0), 1);
    }

    private static void promise18() {
        PartnerWorth x = Check.of(3, 1, 2, 6, 3, 7, 9, 20);
        Check.due("dual(0)", x.dual(0), 1);
        Check.due("dual", Check.values(x, 0), 0, 11, 13, 17, 14, 18, 19, 20);
        Check.due("dual(0) again", x.dual(0), 1);
        Check.due("back", Check.values(x, 0), 0, 1, 2, 6, 3, 7, 9, 20);
        Check.due("dual(4)", x.dual(4), -1);
        Check.due("dual(-1)", x.dual(-1), -1);
        PartnerWorth y = Check.of(2, 1, 5, -1);
        Check.doubled(y, 0, 60);
        Check.due("sums that fit", y.dual(0), 1);
        long unit = 1L << 60;
        Check.due("dual", Check.values(y, 0), 0, -6 * unit, -2 * unit, -unit);
        PartnerWorth z = Check.of(2, 5, 1, -4);
        Check.doubled(z, 0, 60);
        Check.due("a value would be beyond", z.dual(0), -6);
        Check.due("nothing is changed by OVER", Check.values(z, 0), 0, 5 * unit, unit, -4 * unit);
    }

    private static void promise19() {
        PartnerWorth x = Check.of(3, 4, 5, 7, 1, 0, 0, 8);
        Check.due("cover(0)", x.cover(0), 4);
        Check.due("cover", Check.values(x, 0), 0, 4, 5, 9, 1, 5, 6, 10);
        Check.due("cover(0) again", x.cover(0), 0);
        PartnerWorth y = Check.of(3, -1, -2, -4, -3, -3, -4, -9);
        Check.due("losses", y.cover(0), 2);
        Check.due("cover", Check.values(y, 0), 0, -1, -2, -3, -3, -3, -4, -5);
        Check.due("cover(4)", x.cover(4), -1);
        Check.due("cover(-1)", x.cover(-1), -1);
        PartnerWorth z = Check.of(2, 4, 4, 0);
        Check.doubled(z, 0, 60);
        Check.due("a sum is beyond", z.cover(0), -6);
        Check.due("nothing is changed by OVER", z.valueOf(0, 3), 0);
        PartnerWorth w = Check.of(2, -5, -4, 0);
        Check.doubled(w, 0, 60);
        Check.due("a sum below that is not taken is beyond, too", w.cover(0), -6);
        PartnerWorth v = Check.of(3, 3, 3, 0, 3, 0, 0, 0);
        Check.doubled(v, 0, 60);
        Check.due("what the rest has become counts", v.cover(0), -6);
    }

    private static void promise20() {
        PartnerWorth x = Check.of(3, 1, 2, 3, 4, 5, 6, 7);
        Check.due("mask(0, 7)", x.mask(0, 7), 0);
        Check.due("mask(0, 5)", x.mask(0, 5), 4);
        Check.due("masked", Check.values(x, 0), 0, 1, 0, 1, 4, 5, 4, 5);
        Check.due("mask(0, 5) again", x.mask(0, 5), 0);
        Check.due("mask(0, 8)", x.mask(0, 8), -2);
        Check.due("mask(0, -1)", x.mask(0, -1), -2);
        Check.due("mask(4, 1)", x.mask(4, 1), -1);
        Check.due("mask(-1, 1)", x.mask(-1, 1), -1);
        Check.due("NONE ahead of BAD", x.mask(4, 8), -1);
        Check.due("mask(0, 0)", x.mask(0, 0), 6);
        Check.due("masked", Check.values(x, 0), 0, 0, 0, 0, 0, 0, 0, 0);
    }

    private static void promise21() {
        PartnerWorth x = Check.of(3, 1, 2, 3, 4, 5, 6, 7);
        Check.due("unanimous(0, 5, 10)", x.unanimous(0, 5, 10), 1);
        Check.due("values", Check.values(x, 0), 0, 1, 2, 3, 4, 15, 6, 17);
        Check.due("unanimous(0, 2, -trillion)", x.unanimous(0, 2, -TRILLION), 1);
        Check.due("valueOf(0, 6)", x.valueOf(0, 6), 6 - TRILLION);
        Check.due("valueOf(0, 5)", x.valueOf(0, 5), 15);
        Check.due("unanimous(0, 7, trillion)", x.unanimous(0, 7, TRILLION), 1);
        Check.due("unanimous(0, 7, 0)", x.unanimous(0, 7, 0), 1);
        Check.due("valueOf(0, 7)", x.valueOf(0, 7), 17);
        Check.due("unanimous of the empty set", x.unanimous(0, 0, 1), -2);
        Check.due("unanimous of no set", x.unanimous(0, 8, 1), -2);
        Check.due("unanimous of set -1", x.unanimous(0, -1, 1), -2);
        Check.due("unanimous above", x.unanimous(0, 1, TRILLION + 1), -2);
        Check.due("unanimous below", x.unanimous(0, 1, -TRILLION - 1), -2);
        Check.due("unanimous(4, 1, 1)", x.unanimous(4, 1, 1), -1);
        Check.due("unanimous(-1, 1, 1)", x.unanimous(-1, 1, 1), -1);
        Check.due("NONE ahead of BAD", x.unanimous(4, 0, TRILLION + 1), -1);
        PartnerWorth y = Check.of(2, 0, 0, -1);
        Check.doubled(y, 0, 63);
        Check.due("beyond", y.unanimous(0, 3, -1), -6);
        Check.due("beyond for one of several", y.unanimous(0, 1, -1), -6);
        Check.due("nothing is changed by OVER", Check.values(y, 0), 0, 0, 0, Long.MIN_VALUE);
        Check.due("back from the least long", y.unanimous(0, 3, 1), 1);
        Check.due("values", Check.values(y, 0), 0, 0, 0, Long.MIN_VALUE + 1);
    }

    private static void promise22() {
        PartnerWorth x = Check.of(3, 1, 2, 3, 4, 5, 6, 7);
        Check.due("without(0, 1)", x.without(0, 1), 4);
        Check.due("values", Check.values(x, 0), 0, 1, 0, 1, 4, 5, 4, 5);
        Check.due("without(0, 1) again", x.without(0, 1), 0);
        Check.due("without(0, 2)", x.without(0, 2), 4);
        Check.due("values", Check.values(x, 0), 0, 1, 0, 1, 0, 1, 0, 1);
        Check.due("without(0, 3)", x.without(0, 3), -1);
        Check.due("without(0, -1)", x.without(0, -1), -1);
        Check.due("without(4, 0)", x.without(4, 0), -1);
        Check.due("without(-1, 0)", x.without(-1, 0), -1);
    }

    private static void promise23() {
        PartnerWorth x = Check.of(3, 1, 2, 3, 4, 5, 6, 7);
        Check.due("join(0, 0, 2)", x.join(0, 0, 2), 4);
        Check.due("values", Check.values(x, 0), 0, 5, 2, 7, 0, 5, 2, 7);
        PartnerWorth y = Check.of(3, 1, 2, 3, 4, 5, 6, 7);
        Check.due("join(0, 2, 0)", y.join(0, 2, 0), 4);
        Check.due("values", Check.values(y, 0), 0, 0, 2, 2, 5, 5, 7, 7);
        Check.due("join(0, 1, 1)", x.join(0, 1, 1), -1);
        Check.due("join(0, 3, 1)", x.join(0, 3, 1), -1);
        Check.due("join(0, 1, 3)", x.join(0, 1, 3), -1);
        Check.due("join(0, -1, 1)", x.join(0, -1, 1), -1);
        Check.due("join(0, 1, -1)", x.join(0, 1, -1), -1);
        Check.due("join(4, 0, 1)", x.join(4, 0, 1), -1);
        Check.due("join(-1, 0, 1)", x.join(-1, 0, 1), -1);
    }

    private static void promise24() {
        PartnerWorth x = Check.of(3, 1, 2, 3, 4, 5, 6, 7);
        Check.due("swap(0, 0, 2)", x.swap(0, 0, 2), 4);
        Check.due("values", Check.values(x, 0), 0, 4, 2, 6, 1, 5, 3, 7);
        Check.due("swap(0, 2, 0) back", x.swap(0, 2, 0), 4);
        Check.due("values", Check.values(x, 0), 0, 1, 2, 3, 4, 5, 6, 7);
        Check.due("swap(0, 1, 1)", x.swap(0, 1, 1), 0);
        Check.due("values", Check.values(x, 0), 0, 1, 2, 3, 4, 5, 6, 7);
        Check.due("swap(0, 3, 0)", x.swap(0, 3, 0), -1);
        Check.due("swap(0, 0, 3)", x.swap(0, 0, 3), -1);
        Check.due("swap(0, -1, 0)", x.swap(0, -1, 0), -1);
        Check.due("swap(0, 0, -1)", x.swap(0, 0, -1), -1);
        Check.due("swap(4, 0, 1)", x.swap(4, 0, 1), -1);
        Check.due("swap(-1, 0, 1)", x.swap(-1, 0, 1), -1);
    }

    private static void promise25() {
        PartnerWorth x = Check.of(3, 1, 2, 3, 4, 5, 6, 7);
        x.copy(3, 0);
        Check.due("differ(0, 3)", x.differ(0, 3), -5);
        Check.due("differ(0, 0)", x.differ(0, 0), -5);
        x.value(3, 7, 0);
        Check.due("the last", x.differ(0, 3), 7);
        x.value(3, 4, 0);
        Check.due("the least", x.differ(3, 0), 4);
        Check.due("differ(0, 4)", x.differ(0, 4), -1);
        Check.due("differ(4, 0)", x.differ(4, 0), -1);
        Check.due("differ(-1, 0)", x.differ(-1, 0), -1);
        Check.due("differ(0, -1)", x.differ(0, -1), -1);
    }

    private static void promise26() {
        PartnerWorth x = Check.of(3, 1, 2, 3, 4, 5, 6, 7);
        Check.due("all unlike", x.unlike(0), 8);
        x.value(0, 5, 0);
        x.value(0, 6, 3);
        Check.due("the empty one's counts once", x.unlike(0), 6);
        Check.due("all alike", x.unlike(1), 1);
        x.value(1, 7, -1);
        Check.due("two", x.unlike(1), 2);
        Check.due("unlike(4)", x.unlike(4), -1);
        Check.due("unlike(-1)", x.unlike(-1), -1);
        PartnerWorth y = Check.of(9);
        y.pairs(0, 511, 511);
        Check.due("the sizes of all sets of nine", y.unlike(0), 10);
        for (int partner = 0; partner < 9; partner++) {
            y.unanimous(0, 1 << partner, 10L << partner);
        }
        Check.due("as many as there are sets", y.unlike(0), 512);
    }
}
