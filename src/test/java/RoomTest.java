import java.lang.management.ManagementFactory;

/** All calls of a run live in one room: the constructor alone makes objects, and few. */
final class RoomTest {
    private static final int OBJECTS = 200, ROUNDS = 2000;
    private static final long BYTES_OF_AN_OBJECT = 8000, BYTES_OF_ALL_CALLS = 20000;
    private static final com.sun.management.ThreadMXBean meter =
        (com.sun.management.ThreadMXBean) ManagementFactory.getThreadMXBean();
    private static final Check check = new Check();

    public static void main(String[] args) {
        TideDice[] made = new TideDice[OBJECTS];
        long before = taken();
        for (int i = 0; i < OBJECTS; i++) {
            made[i] = new TideDice();
        }
        long each = (taken() - before) / OBJECTS;
        check.isTrue("bytes of an object: " + each, each <= BYTES_OF_AN_OBJECT);
        TideDice x = made[0];
        everyCall(x);
        before = taken();
        long sum = 0;
        for (int i = 0; i < ROUNDS; i++) {
            sum += everyCall(x);
        }
        long all = taken() - before;
        check.isTrue("bytes of all calls: " + all + " (" + sum + ")", all <= BYTES_OF_ALL_CALLS);
        check.end();
    }

    private static long taken() {
        return meter.getThreadAllocatedBytes(Thread.currentThread().getId());
    }

    private static long everyCall(TideDice x) {
        long sum = x.type('g') + x.type('3') + x.type(';') + x.harbour() + x.type('x') + x.harbour() + x.clear();
        sum += x.die(0, 0) + x.berth(1) + x.player(0, 3) + x.chalks(1, 1) + x.keep(0);
        sum += x.throwsDice(1, 1, 2) + x.wise(0) + x.cheap() + x.leaves() + x.takes(12);
        sum += x.passes() + x.undo() + x.now(3) + x.chance(1, 0) + x.odds(2, 1) + x.ever();
        sum += x.wrong() + x.off(0) + x.bet() + x.wipes() + x.third(1, 1, 1) + x.threw(1, 1);
        return sum + x.beats(0, 1, 0) + x.ring() + x.mark(3, 1) + x.back(0) + x.count(2) + x.trace();
    }
}
