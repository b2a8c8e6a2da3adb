import java.lang.management.ManagementFactory;
import java.util.List;

/** All calls of a run live in one room: whatever call a run is made of, it must not fill it. */
public final class RoomTest {
    /** With those that come ahead of them these are less than the 512 calls that the document promises. */
    private static final int CALLS = 480;
    /** 7.3 million fields and elements are 29 million bytes at least; a half of them is room enough. */
    private static final long ROOM_BYTES = 14_000_000;
    private static final Check CHECK = new Check("RoomTest");
    private static final com.sun.management.ThreadMXBean ROOM = (com.sun.management.ThreadMXBean) ManagementFactory.getThreadMXBean();

    private interface Call {
        int on(BusSilences x, int time);
    }

    private static final List<Call> CALLS_OF_EACH_KIND = List.of((x, time) -> x.set(time % 5, 3), (x, time) -> x.station(63),
        (x, time) -> x.word(time % 8, 0, time % 256), (x, time) -> x.forget(time % 8), (x, time) -> x.stick(time % 6),
        (x, time) -> x.doze(time % 8), (x, time) -> x.pass(200), (x, time) -> x.ofWire(time % 6, time % 7),
        (x, time) -> x.of(time % 8, time % 10), (x, time) -> x.row(0, time % 4, time % 3), (x, time) -> x.heard(1, time % 4, time % 4),
        (x, time) -> x.count(time % 17), (x, time) -> x.why(time % 8), (x, time) -> x.endsIn(time % 8, 0), (x, time) -> x.quietIn(),
        (x, time) -> x.bestRest(200, 0), (x, time) -> x.busiest(), (x, time) -> x.sleepsIn(time % 8),
        (x, time) -> x.put(time % 2 == 0 ? 0x7a303b7a303b6231L : 0x3b7a303b7a303b62L), (x, time) -> x.wipe(), (x, time) -> x.fault(),
        (x, time) -> time % 2 == 0 ? x.put(0x7a303b7a303b6231L) : x.carryOut(), (x, time) -> time % 2 == 0 ? x.stick(0) : x.undo(),
        (x, time) -> x.save(time % 2), (x, time) -> x.restore(0));

    public static void main(String[] args) {
        for (int kind = 0; kind < CALLS_OF_EACH_KIND.size(); kind++) aRunHasRoom(kind);
        CHECK.end();
    }

    private static void aRunHasRoom(int kind) {
        long bytes = taken(CALLS_OF_EACH_KIND.get(kind));
        CHECK.due("a run of calls of kind " + kind + " takes " + bytes + " bytes, and has room", bytes <= ROOM_BYTES ? 1 : 0, 1);
    }

    /** The bytes that an object takes with all calls made on it. */
    private static long taken(Call call) {
        long before = ROOM.getThreadAllocatedBytes(Thread.currentThread().getId());
        BusSilences x = new BusSilences();
        x.set(BusSilences.LOAD, 0);
        for (int station = 0; station < 8; station++) x.station(63);
        for (int word = 0; word < 8; word++) x.word(word % 4, word % 6, word * 30);
        x.save(0);
        x.pass(40);
        for (int time = 0; time < CALLS; time++) call.on(x, time);
        return ROOM.getThreadAllocatedBytes(Thread.currentThread().getId()) - before;
    }
}
