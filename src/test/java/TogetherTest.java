/** Calls behind one another, which leave each other alone; and calls with as many partners as can be. */
public final class TogetherTest {
    private static final long NO = PartnerWorth.NO;
    private static final long UNIT = 1L << 60;

    public static void main(String[] args) {
        behindBeyond();
        behindBeyondAnswers();
        readBehindOthers();
        nineTold();
        nineMade();
        nineWorkedOn();
        nineShares();
        nineVotes();
        nineKinds();
        nineToldShares();
        nineGoAndComeBack();
        oneAlone();
        Check.end();
    }

    /** Game 3 has values of which most sums are beyond. */
    private static PartnerWorth withBeyond() {
        PartnerWorth x = Check.of(3, 1, 2, 6, 3, 7, 9, 20);
        for (int set = 1; set < 8; set++) {
            x.value(3, set, set == 7 ? -5 : 5);
        }
        Check.doubled(x, 3, 60);
        return x;
    }

    private static void beyond(PartnerWorth x) {
        Check.due("a sum beyond", x.add(3, 3), -6);
    }

    private static void behindBeyond() {
        PartnerWorth x = withBeyond();
        beyond(x);
        Check.due("add", x.add(1, 0), 1);
        beyond(x);
        Check.due("times", x.times(1, 2), 1);
        beyond(x);
        Check.due("dual", x.dual(1), 1);
        beyond(x);
        Check.due("cover", x.cover(1), 4);
        beyond(x);
        Check.due("unanimous", x.unanimous(1, 7, 1), 1);
        beyond(x);
        Check.due("spell", x.spell(0), 14);
        beyond(x);
        x.row(0, 3);
        Check.due("lay", x.lay(0, 0, 0), 3);
        beyond(x);
        Check.due("is", x.is(0, 1), 1);
        beyond(x);
        Check.due("is", x.is(0, 2), 1);
        Check.due("values", Check.values(x, 1), 0, 22, 26, 48, 28, 50, 54, 77);
    }

    private static void behindBeyondAnswers() {
        PartnerWorth x = withBeyond();
        Check.tell(x, 0, 0, 1, 2, 5, 7, 8);
        beyond(x);
        Check.due("adds", x.adds(0, 0, 0, 2), 14);
        beyond(x);
        Check.due("share", x.share(0, 0, 0), 16);
        beyond(x);
        Check.due("power", x.power(0, 0), 20);
        beyond(x);
        Check.due("owen", x.owen(0, 0, 0), 16);
        beyond(x);
        Check.due("dividend", x.dividend(0, 7), 4);
        beyond(x);
        Check.due("kind", x.kind(0, 1), 0);
        Check.due("dummies of beyond", x.kind(3, 1), 0);
        Check.due("none of them", x.kind(1, 0), 7);
        Check.due("carrier of beyond", x.carrier(3), 7);
        Check.due("carrier", x.carrier(1), 0);
        beyond(x);
        Check.due("stable", x.stable(0, 0, 3), 1);
        beyond(x);
        Check.due("worst", x.worst(0, 0, 3), 1);
        beyond(x);
        Check.due("excess", x.excess(0, 0, 3, 1), -4);
    }

    private static void readBehindOthers() {
        PartnerWorth x = Check.of(2, 1, 2, 3);
        x.value(1, 1, 7);
        x.value(1, 2, 8);
        x.times(0, 1);
        Check.due("read(1)", Check.read(x, 1, "ab=4"), 1);
        Check.due("what is not told stays", Check.values(x, 1), 0, 7, 8, 4);
        Check.due("a fault", Check.read(x, 0, "ab=4;"), -105);
        Check.due("the game stays", Check.values(x, 0), 0, 1, 2, 3);
        x.dividend(0, 3);
        x.cover(1);
        Check.due("cover behind others", Check.values(x, 1), 0, 7, 8, 15);
        x.copy(2, 1);
        Check.due("dividend behind others", x.dividend(0, 3), 0);
        Check.due("cover behind others", x.cover(0), 0);
    }

    private static void nineTold() {
        PartnerWorth x = Check.of(9);
        for (int a = 0; a < 9; a++) {
            Check.due("weight", x.weight(a, a + 1), 0);
            for (int b = 0; b < a; b++) {
                Check.due("edge", x.edge(a, b, 10 * a + b), 1);
            }
        }
        Check.due("edges", x.told(3), 36);
        Check.due("weights", x.told(7), 45);
        for (int a = 0; a < 9; a++) {
            for (int b = 0; b < a; b++) {
                Check.due("worth", x.worth(b, a), 10 * a + b);
                Check.due("cut", x.cut(b, a), 1);
            }
        }
        Check.due("edges", x.told(3), 0);
        for (int a = 8; a > 0; a--) {
            Check.due("unite", x.unite(a, a - 1), a - 1);
        }
        Check.due("unions", x.told(4), 8);
        Check.due("unite", x.unite(0, 0), 0);
    }

    private static void nineMade() {
        PartnerWorth x = Check.of(9);
        for (int p = 0; p < 9; p++) {
            x.weight(p, 1 << p);
        }
        x.edge(7, 8, 5);
        x.edge(0, 8, -5);
        x.quota(0, 511);
        x.quota(1, 500);
        Check.due("by vote", x.make(0, 0), 1);
        Check.due("valueOf(0, 511)", x.valueOf(0, 511), 1);
        Check.due("by weights", x.make(0, 1), 511);
        Check.due("unlike", x.unlike(0), 512);
        Check.due("valueOf(0, 300)", x.valueOf(0, 300), 300);
        Check.due("by edges", x.make(1, 2), 128);
        Check.due("valueOf(1, 511)", x.valueOf(1, 511), 0);
        Check.due("valueOf(1, 384)", x.valueOf(1, 384), 5);
        Check.due("by heaviest", x.make(2, 3), 511);
        Check.due("valueOf(2, 255)", x.valueOf(2, 255), 128);
        Check.due("by claims", x.make(3, 4), 500);
        Check.due("valueOf(3, 12)", x.valueOf(3, 12), 1);
        Check.due("by pairs", x.pairs(3, 1, 256), 128);
        Check.due("differ", x.differ(0, 2), 3);
        Check.due("copy", x.copy(2, 0), 1);
        Check.due("differ", x.differ(0, 2), -5);
        for (int p = 0; p < 9; p++) {
            x.weight(p, 0);
        }
        Check.due("no weights: by heaviest", x.make(0, 3), 0);
    }

    private static PartnerWorth nineByNumbers() {
        PartnerWorth x = Check.of(9);
        for (int p = 0; p < 9; p++) {
            x.weight(p, 1 << p);
        }
        x.make(0, 1);
        return x;
    }

    private static void nineWorkedOn() {
        PartnerWorth x = nineByNumbers();
        Check.due("cover", x.cover(0), 0);
        Check.due("dual", x.dual(0), 1);
        Check.due("what all add by themselves is its own dual", x.valueOf(0, 400), 400);
        Check.due("swap", x.swap(0, 0, 8), 256);
        Check.due("valueOf(0, 1)", x.valueOf(0, 1), 256);
        Check.due("swap", x.swap(0, 8, 0), 256);
        Check.due("join", x.join(0, 8, 0), 256);
        Check.due("valueOf(0, 1)", x.valueOf(0, 1), 0);
        Check.due("valueOf(0, 256)", x.valueOf(0, 256), 257);
        Check.due("without", x.without(0, 8), 256);
        Check.due("valueOf(0, 511)", x.valueOf(0, 511), 254);
        Check.due("mask", x.mask(0, 2), 504);
        Check.due("valueOf(0, 511)", x.valueOf(0, 511), 2);
        Check.due("unanimous", x.unanimous(0, 511, 9), 1);
        Check.due("times", x.times(0, -2), 1);
        Check.due("add", x.add(0, 0), 1);
        Check.due("valueOf(0, 511)", x.valueOf(0, 511), -44);
        Check.due("valueOf(0, 510)", x.valueOf(0, 510), -8);
    }

    private static void nineShares() {
        PartnerWorth x = nineByNumbers();
        Check.tell(x, 0, 8, 7, 6, 5, 4, 3, 2, 1, 0);
        for (int p = 0; p < 9; p++) {
            Check.due("adds", x.adds(0, 0, 0, p), 256 >> p);
            Check.due("share above", x.share(0, p, 0), 1 << p);
            Check.due("share below", x.share(0, p, 1), 1);
            Check.due("power", x.power(0, p), 256L << p);
            Check.due("owen above", x.owen(0, p, 0), 1 << p);
            Check.due("owen below", x.owen(0, p, 1), 1);
            Check.due("dividend", x.dividend(0, 1 << p), 1 << p);
        }
        Check.due("dividend of all", x.dividend(0, 511), 0);
        for (int p = 0; p < 9; p += 2) {
            x.unite(p, 8);
            Check.due("with unions, too", x.owen(0, p, 0), 1 << p);
        }
        Check.due("spell", x.spell(0), 24);
        Check.dueText("paper", Check.paper(x), "1 2 4 8 16 32 64 128 256");
        Check.due("lay", x.lay(0, 0, 0), 9);
        Check.due("get", x.get(0, 8), 256);
    }

    private static void nineVotes() {
        PartnerWorth x = nineByNumbers();
        x.quota(0, 256);
        Check.tell(x, 0, 0, 1, 2, 3, 4, 5, 6, 7, 8);
        Check.due("pivot", x.pivot(0, 0), 8);
        Check.due("swings", x.swings(8, 0), 256);
        Check.due("swings", x.swings(8, 1), 256);
        Check.due("swings of others", x.swings(7, 0), 0);
        Check.due("swings of others", x.swings(7, 1), 0);
        Check.due("pivots", x.pivots(8, 0), 1);
        Check.due("pivots", x.pivots(8, 1), 1);
        Check.due("holder", x.holder(8, 0), 1);
        Check.due("votes(0)", x.votes(0), 256);
        Check.due("votes(1)", x.votes(1), 1);
        Check.due("votes(2)", x.votes(2), 256);
        x.quota(0, 511);
        Check.due("votes(0)", x.votes(0), 1);
        Check.due("votes(2), all are needed", x.votes(2), 511);
        x.quota(0, 1);
        Check.due("one alone by sums", x.swings(0, 1), 1);
        Check.due("one alone set by set", x.swings(0, 0), 1);
        Check.due("holder", x.holder(0, 1), 9);
    }

    private static void nineKinds() {
        PartnerWorth x = nineByNumbers();
        Check.due("NULL", x.kind(0, 0), 0);
        Check.due("DUMMY", x.kind(0, 1), 511);
        Check.due("VETO", x.kind(0, 2), 0);
        Check.due("alike", x.alike(0, 8), 256);
        Check.due("alike", x.alike(1, 8), 511);
        Check.due("carrier", x.carrier(0), 511);
        Check.due("monotone", x.is(0, 0), 1);
        Check.due("convex", x.is(0, 1), 1);
        Check.due("additive", x.is(0, 2), 1);
        x.value(0, 511, 510);
        Check.due("convex", x.is(0, 1), 0);
        Check.due("additive", x.is(0, 2), 0);
        x.unanimous(1, 256, 1);
        Check.due("VETO", x.kind(1, 2), 256);
        Check.due("NULL", x.kind(1, 0), 255);
    }

    private static void nineToldShares() {
        PartnerWorth x = nineByNumbers();
        x.row(0, 20);
        Check.due("lay", x.lay(0, 11, 0), 9);
        Check.due("stable", x.stable(0, 0, 11), 1);
        Check.due("it ends ahead", x.stable(0, 0, 12), -3);
        Check.due("worst", x.worst(0, 0, 11), 1);
        x.set(0, 19, 255);
        x.set(0, 11, 2);
        Check.due("not stable", x.stable(0, 0, 11), 0);
        Check.due("worst", x.worst(0, 0, 11), 256);
        Check.due("excess", x.excess(0, 0, 11, 256), 1);
        Check.due("excess of all", x.excess(0, 0, 11, 511), 0);
        Check.due("lay", x.lay(0, 12, 0), -13);
        Check.due("get", x.get(0, 19), 128);
    }

    private static void nineGoAndComeBack() {
        PartnerWorth x = nineByNumbers();
        x.edge(7, 8, 4);
        x.unite(8, 7);
        x.image();
        x.partners(2);
        x.value(0, 1, 9);
        Check.due("undo", x.undo(), 9);
        for (int set = 0; set < 512; set++) {
            Check.due("valueOf", x.valueOf(0, set), set);
        }
        Check.due("worth", x.worth(8, 7), 4);
        Check.due("union", x.union(8), 7);
        Check.due("told(18)", x.told(18), 256);
    }

    private static void oneAlone() {
        PartnerWorth x = Check.of(1, -7);
        Check.tell(x, 0, 0, 4);
        Check.due("lay", x.lay(0, 1, 0), 1);
        Check.due("get", x.get(0, 1), -7);
        Check.due("adds", x.adds(0, 0, 0, 0), -7);
        Check.due("share above", x.share(0, 0, 0), -7);
        Check.due("share below", x.share(0, 0, 1), 1);
        Check.due("owen above", x.owen(0, 0, 0), -7);
        Check.due("owen below", x.owen(0, 0, 1), 1);
        Check.due("power", x.power(0, 0), -7);
        Check.due("dividend", x.dividend(0, 1), -7);
        Check.due("cover", x.cover(0), 0);
        Check.due("dual", x.dual(0), 1);
        Check.due("unite", x.unite(0, 0), 0);
        Check.due("join", x.join(0, 0, 0), -1);
        Check.due("swap", x.swap(0, 0, 0), 0);
        x.weight(0, 1);
        Check.due("swings", x.swings(0, 0), 1);
        Check.due("swings", x.swings(0, 1), 1);
        Check.due("pivots", x.pivots(0, 0), 1);
        Check.due("holder", x.holder(0, 1), 1);
        Check.due("votes(2)", x.votes(2), 1);
        Check.due("stable", x.stable(0, 0, 1), 1);
        Check.due("no set there", x.excess(0, 0, 1, 2), NO);
        x.value(0, 1, 4);
        Check.doubled(x, 0, 60);
        Check.due("large ones", x.share(0, 0, 0), 4 * UNIT);
    }
}
