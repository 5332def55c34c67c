import java.lang.management.ManagementFactory;

/** All calls of a run live in one room: no call makes an object, and a new one makes few. */
public final class RoomTest {
    private static final int MOST_BYTES_OF_A_NEW_ONE = 200000;

    public static void main(String[] args) {
        com.sun.management.ThreadMXBean bean = (com.sun.management.ThreadMXBean) ManagementFactory.getThreadMXBean();
        long thread = Thread.currentThread().getId();
        PartnerWorth x = new PartnerWorth();
        long begun = bean.getThreadAllocatedBytes(thread);
        x = new PartnerWorth();
        long made = bean.getThreadAllocatedBytes(thread) - begun;
        Check.due("a new one takes few bytes: " + made, made < MOST_BYTES_OF_A_NEW_ONE ? 1 : 0, 1);
        everyCall(x);
        begun = bean.getThreadAllocatedBytes(thread);
        long sum = everyCall(x);
        long used = bean.getThreadAllocatedBytes(thread) - begun;
        Check.due("bytes of all calls", used, 0);
        Check.due("a sum that keeps the calls from being left out", sum == Long.MIN_VALUE + 1 ? 1 : 0, 0);
        Check.end();
    }

    private static long everyCall(PartnerWorth x) {
        long sum = x.partners(9) + x.value(0, 511, 7) + x.valueOf(0, 511) + x.quota(0, 9);
        for (int p = 0; p < 9; p++) {
            sum += x.weight(p, p) + x.edge(p, (p + 1) % 9, p - 4) + x.unite(p, p / 2);
        }
        sum += x.cut(0, 1) + x.clear() + x.feed('a') + x.feed('=') + x.feed('7') + x.read(0);
        for (int how = 0; how < 5; how++) {
            sum += x.make(0, how) + x.kind(0, how) + x.votes(how) + x.is(0, how) + x.told(how);
        }
        sum += x.pairs(1, 15, 240) + x.copy(2, 1) + x.add(0, 1) + x.times(0, 3) + x.dual(0) + x.cover(0);
        sum += x.mask(0, 255) + x.unanimous(0, 3, 5) + x.without(0, 1) + x.join(0, 1, 2) + x.swap(0, 3, 4);
        sum += x.differ(0, 1) + x.unlike(0) + x.row(0, 20);
        for (int i = 0; i < 9; i++) {
            sum += x.set(0, i, 8 - i);
        }
        sum += x.adds(0, 0, 0, 4) + x.pivot(0, 0) + x.share(0, 2, 0) + x.power(0, 2) + x.owen(0, 2, 1);
        sum += x.dividend(0, 511) + x.swings(3, 0) + x.swings(3, 1) + x.pivots(3, 0) + x.holder(3, 1);
        sum += x.alike(0, 3) + x.carrier(0) + x.union(3) + x.stable(0, 0, 0) + x.worst(0, 0, 0);
        sum += x.excess(0, 0, 0, 5) + x.spell(0) + x.paper(1) + x.worth(1, 2) + x.get(0, 1) + x.lay(0, 3, 0);
        return sum + x.image() + x.undo();
    }
}
