/** Promises 27 and 28: told orders. */
public final class OrdersTest {
    public static void main(String[] args) {
        promise27();
        promise27Beyond();
        promise28();
        promise28Edges();
        Check.end();
    }

    private static void promise27() {
        PartnerWorth x = Check.of(3, 1, 2, 6, 3, 7, 9, 20);
        Check.tell(x, 1, 7, 2, 0, 1, 0, 2);
        Check.due("first", x.adds(0, 1, 1, 0), 3);
        Check.due("second", x.adds(0, 1, 1, 1), 4);
        Check.due("third", x.adds(0, 1, 1, 2), 13);
        Check.due("no such order: 0 1 0", x.adds(0, 1, 2, 0), PartnerWorth.NO);
        Check.due("another order", x.adds(0, 1, 3, 0), 2);
        Check.due("another order", x.adds(0, 1, 3, 1), 4);
        Check.due("another order", x.adds(0, 1, 3, 2), 14);
        Check.due("no such order: 7 2 0", x.adds(0, 1, 0, 1), PartnerWorth.NO);
        Check.due("the row ends ahead", x.adds(0, 1, 4, 0), PartnerWorth.NO);
        Check.due("a place below 0", x.adds(0, 1, -1, 0), PartnerWorth.NO);
        Check.due("a place far beyond", x.adds(0, 1, Integer.MAX_VALUE, 0), PartnerWorth.NO);
        Check.due("k 3", x.adds(0, 1, 1, 3), PartnerWorth.NO);
        Check.due("k -1", x.adds(0, 1, 1, -1), PartnerWorth.NO);
        Check.due("game 4", x.adds(4, 1, 1, 0), PartnerWorth.NO);
        Check.due("game -1", x.adds(-1, 1, 1, 0), PartnerWorth.NO);
        Check.due("row 4", x.adds(0, 4, 1, 0), PartnerWorth.NO);
        Check.due("row -1", x.adds(0, -1, 1, 0), PartnerWorth.NO);
        Check.due("nothing in the row", x.adds(0, 2, 0, 0), PartnerWorth.NO);
        x.set(1, 1, -1);
        Check.due("no partner -1", x.adds(0, 1, 1, 0), PartnerWorth.NO);
        x.set(1, 1, 2 + (1L << 32));
        Check.due("no partner beyond an int", x.adds(0, 1, 1, 0), PartnerWorth.NO);
        x.set(1, 1, Long.MIN_VALUE);
        Check.due("no partner least", x.adds(0, 1, 1, 0), PartnerWorth.NO);
    }

    private static void promise27Beyond() {
        PartnerWorth x = Check.of(2, 4, 4, -4);
        Check.doubled(x, 0, 60);
        long unit = 1L << 60;
        Check.tell(x, 0, 0, 1, 0);
        Check.due("it fits", x.adds(0, 0, 0, 0), 4 * unit);
        Check.due("it just fits", x.adds(0, 0, 0, 1), -8 * unit);
        x.value(1, 1, 1);
        x.add(0, 1);
        Check.due("beyond", x.adds(0, 0, 0, 1), PartnerWorth.NO);
        Check.due("of the other order it fits", x.adds(0, 0, 1, 1), -8 * unit);
    }

    private static void promise28() {
        PartnerWorth x = Check.of(3);
        Check.weigh(x, 3, 2, 1, 1);
        Check.tell(x, 3, 0, 1, 2, 1, 0, 2, 1);
        Check.due("0 1 2", x.pivot(3, 0), 1);
        Check.due("1 2 1", x.pivot(3, 1), -3);
        Check.due("2 1 0", x.pivot(3, 2), 0);
        Check.due("1 0 2", x.pivot(3, 3), 0);
        Check.due("0 2 1", x.pivot(3, 4), 2);
        Check.due("it ends ahead", x.pivot(3, 5), -3);
        Check.due("a place below 0", x.pivot(3, -1), -3);
        Check.due("a place far beyond", x.pivot(3, Integer.MAX_VALUE), -3);
        Check.due("nothing in the row", x.pivot(0, 0), -3);
        Check.due("row 4", x.pivot(4, 0), -1);
        Check.due("row -1", x.pivot(-1, 0), -1);
    }

    private static void promise28Edges() {
        PartnerWorth x = Check.of(3);
        Check.weigh(x, 0, 2, 1, 1);
        Check.tell(x, 0, 0, 1, 2);
        Check.due("the empty set wins ahead of all", x.pivot(0, 0), -5);
        x.quota(0, 5);
        Check.due("nobody wins", x.pivot(0, 0), -5);
        x.quota(0, 4);
        Check.due("the last", x.pivot(0, 0), 2);
        x.quota(0, 1);
        Check.due("the first", x.pivot(0, 0), 0);
        x.set(0, 2, 3);
        Check.due("no partner 3", x.pivot(0, 0), -3);
        x.set(0, 2, -1);
        Check.due("no partner -1", x.pivot(0, 0), -3);
        x.set(0, 2, 2 + (1L << 32));
        Check.due("no partner beyond an int", x.pivot(0, 0), -3);
        PartnerWorth one = new PartnerWorth();
        Check.tell(one, 0, 0);
        Check.due("one without a weight", one.pivot(0, 0), -5);
        one.weight(0, 1);
        Check.due("one alone", one.pivot(0, 0), 0);
        Check.due("a row of none", one.row(1, 0), 1);
        Check.due("it ends ahead", one.pivot(1, 0), -3);
    }
}
