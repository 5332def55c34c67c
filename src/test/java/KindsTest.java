/** Promises 37 to 41: what partners and games are. */
public final class KindsTest {
    public static void main(String[] args) {
        promise37();
        promise37Beyond();
        promise38();
        promise39();
        promise40();
        promise40Beyond();
        promise41();
        Check.end();
    }

    private static void promise37() {
        PartnerWorth x = Check.of(3, 2, 0, 2, 5, 7, 5, 7);
        Check.due("1 adds nothing", x.kind(0, 0), 2);
        Check.due("all add their own", x.kind(0, 1), 7);
        Check.due("none has a veto", x.kind(0, 2), 0);
        x.value(0, 7, 8);
        Check.due("nobody adds nothing", x.kind(0, 0), 0);
        Check.due("nobody adds just its own", x.kind(0, 1), 0);
        Check.due("nothing told: NULL", x.kind(1, 0), 7);
        Check.due("nothing told: DUMMY", x.kind(1, 1), 7);
        Check.due("nothing told: VETO", x.kind(1, 2), 7);
        x.unanimous(2, 5, -3);
        Check.due("0 and 2 are both needed", x.kind(2, 2), 5);
        Check.due("1 adds nothing", x.kind(2, 0), 2);
        x.value(2, 4, 1);
        Check.due("2 can do it alone", x.kind(2, 2), 4);
        PartnerWorth one = Check.of(1, 9);
        Check.due("one alone: NULL", one.kind(0, 0), 0);
        Check.due("one alone: DUMMY", one.kind(0, 1), 1);
        Check.due("one alone: VETO", one.kind(0, 2), 1);
        Check.due("what 3", x.kind(0, 3), -1);
        Check.due("what -1", x.kind(0, -1), -1);
        Check.due("game 4", x.kind(4, 0), -1);
        Check.due("game -1", x.kind(-1, 0), -1);
    }

    private static void promise37Beyond() {
        PartnerWorth x = Check.of(2, 2, 3, -3);
        Check.doubled(x, 0, 61);
        Check.due("what is added is told exactly", x.kind(0, 1), 0);
        PartnerWorth y = Check.of(2, 1, 2, 3);
        Check.doubled(y, 0, 61);
        Check.due("large ones", y.kind(0, 1), 3);
    }

    private static void promise38() {
        PartnerWorth x = Check.of(3, 1, 1, 5, 1, 6, 6, 9);
        Check.due("alike(0, 0)", x.alike(0, 0), 3);
        Check.due("alike(0, 1)", x.alike(0, 1), 3);
        Check.due("alike(0, 2)", x.alike(0, 2), 4);
        x.value(0, 3, 6);
        Check.due("all alike", x.alike(0, 2), 7);
        x.value(0, 2, 2);
        Check.due("0 and 2", x.alike(0, 2), 5);
        Check.due("1 is not as they", x.alike(0, 1), 2);
        Check.due("partner 3", x.alike(0, 3), -1);
        Check.due("partner -1", x.alike(0, -1), -1);
        Check.due("game 4", x.alike(4, 0), -1);
        Check.due("game -1", x.alike(-1, 0), -1);
        Check.due("one alone", new PartnerWorth().alike(0, 0), 1);
    }

    private static void promise39() {
        PartnerWorth x = Check.of(4);
        Check.due("nothing told", x.carrier(0), 0);
        x.unanimous(0, 6, 4);
        Check.due("two carry it", x.carrier(0), 6);
        x.value(0, 15, 5);
        Check.due("all", x.carrier(0), 15);
        x.make(1, 1);
        Check.due("no weights", x.carrier(1), 0);
        x.weight(3, 2);
        x.make(1, 1);
        Check.due("one weight", x.carrier(1), 8);
        Check.due("game 4", x.carrier(4), -1);
        Check.due("game -1", x.carrier(-1), -1);
    }

    private static void dueIs(PartnerWorth x, int monotone, int convex, int additive) {
        Check.due("is(0, 0)", x.is(0, 0), monotone);
        Check.due("is(0, 1)", x.is(0, 1), convex);
        Check.due("is(0, 2)", x.is(0, 2), additive);
    }

    private static void promise40() {
        dueIs(Check.of(3, 1, 2, 6, 3, 7, 9, 20), 1, 1, 1);
        dueIs(Check.of(3, 1, 2, 3, 4, 5, 6, 7), 1, 1, 1);
        dueIs(Check.of(2, 3, 3, 5), 1, 0, 0);
        dueIs(Check.of(2, -1, 0, 0), 0, 1, 1);
        dueIs(Check.of(2, 3, 0, 2), 0, 0, 0);
        dueIs(Check.of(3, 0, 0, 4, 0, 4, 0, 4), 1, 0, 1);
        dueIs(Check.of(3, 0, 0, 1, 0, 1, 1, 1), 1, 0, 1);
        dueIs(Check.of(3, 5, 5, 10, 5, 10, 10, 14), 1, 0, 0);
        dueIs(Check.of(3, 1, 1, 1, 1, 1, 1, 0), 0, 0, 0);
        dueIs(Check.of(1, -1), 0, 1, 1);
        PartnerWorth x = Check.of(9);
        dueIs(x, 1, 1, 1);
        x.unanimous(0, 511, 1);
        dueIs(x, 1, 1, 1);
        x.unanimous(0, 255, 2);
        x.value(0, 511, 1);
        dueIs(x, 0, 0, 0);
        Check.due("what 3", x.is(0, 3), -1);
        Check.due("what -1", x.is(0, -1), -1);
        Check.due("game 4", x.is(4, 0), -1);
        Check.due("game -1", x.is(-1, 0), -1);
    }

    private static void promise40Beyond() {
        PartnerWorth x = Check.of(2, 4, 4, 4);
        Check.doubled(x, 0, 60);
        dueIs(x, 1, -6, -6);
        PartnerWorth first = Check.of(3, 1, 1, 0, 0, 0, 7, 7);
        Check.doubled(first, 0, 60);
        dueIs(first, 0, 0, 0);
        PartnerWorth later = Check.of(3, 5, 1, 6, 5, 0, 0, 0);
        Check.doubled(later, 0, 60);
        dueIs(later, 0, -6, -6);
        PartnerWorth nested = Check.of(2, 4, 0, 4);
        Check.doubled(nested, 0, 60);
        dueIs(nested, 1, -6, 1);
        PartnerWorth below = Check.of(2, -5, -5, 0);
        Check.doubled(below, 0, 60);
        dueIs(below, 0, -6, -6);
        PartnerWorth met = Check.of(2, 0, 0, 7);
        Check.doubled(met, 0, 60);
        dueIs(met, 1, 1, 1);
        PartnerWorth alone = Check.of(1, 7);
        Check.doubled(alone, 0, 60);
        dueIs(alone, 1, 1, 1);
        PartnerWorth right = Check.of(3, 5, 0, 0, 0, 0, 0, 7);
        right.value(0, 3, 5);
        right.value(0, 5, 5);
        Check.doubled(right, 0, 60);
        dueIs(right, 1, -6, 1);
    }

    private static void promise41() {
        PartnerWorth x = Check.of(4);
        for (int p = 0; p < 4; p++) {
            Check.due("at first", x.union(p), p);
        }
        x.unite(1, 3);
        Check.due("union(3)", x.union(3), 1);
        Check.due("union(1)", x.union(1), 1);
        x.unite(0, 3);
        Check.due("union(3)", x.union(3), 0);
        x.unite(0, 2);
        Check.due("union(3)", x.union(3), 1);
        Check.due("union(2)", x.union(2), 0);
        Check.due("union(4)", x.union(4), -1);
        Check.due("union(-1)", x.union(-1), -1);
    }
}
