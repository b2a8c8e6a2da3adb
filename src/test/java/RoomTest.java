import java.lang.management.ManagementFactory;

/** All calls of a run share one room: beside save, which makes its slot once, no call may take any of it. */
public final class RoomTest {
    private static final int CALLS = 512;
    private static final long A_LITTLE = 65536;
    private static final Check CHECK = new Check("RoomTest");
    private static final com.sun.management.ThreadMXBean ROOM = (com.sun.management.ThreadMXBean) ManagementFactory.getThreadMXBean();

    public static void main(String[] args) {
        taken(new BusSilences());
        BusSilences x = new BusSilences();
        x.save(0);
        x.save(1);
        long bytes = taken(x);
        CHECK.due("no more than a little is taken by all calls (" + bytes + " bytes)", bytes <= A_LITTLE ? 1 : 0, 1);
        long before = ROOM.getThreadAllocatedBytes(Thread.currentThread().getId());
        x = new BusSilences();
        x.save(0);
        x.save(1);
        bytes = ROOM.getThreadAllocatedBytes(Thread.currentThread().getId()) - before;
        CHECK.due("an object takes little (" + bytes + " bytes)", bytes <= A_LITTLE ? 1 : 0, 1);
        CHECK.end();
    }

    private static long taken(BusSilences x) {
        long before = ROOM.getThreadAllocatedBytes(Thread.currentThread().getId());
        for (int call = 0; call < CALLS; call++) callAll(x, call);
        return ROOM.getThreadAllocatedBytes(Thread.currentThread().getId()) - before;
    }

    private static void callAll(BusSilences x, int call) {
        x.set(call % 5, 3);
        x.station(63);
        x.word(call % 8, call % 6, call % 256);
        x.pass(1 + call % 20);
        x.stick(call % 6);
        x.doze(call % 8);
        x.forget(call % 8);
        x.why(call % 8);
        x.endsIn(call % 8, 0);
        x.quietIn();
        x.bestRest(200, 0);
        x.busiest();
        x.sleepsIn(call % 8);
        x.put(0x7a303b7a303b6231L);
        x.fault();
        x.carryOut();
        x.wipe();
        x.save(call % 2);
        x.restore(call % 2);
        x.undo();
        for (int what = 0; what <= 17; what++) {
            x.count(what);
            x.of(call % 8, what);
            x.ofWire(call % 6, what);
            x.row(call % 8, 0, what);
            x.heard(call % 8, 0, what);
        }
    }
}
