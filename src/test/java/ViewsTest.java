/** Promises 9 to 13: what there is. */
public final class ViewsTest {
    private static final Check CHECK = new Check("ViewsTest");

    public static void main(String[] args) {
        wiresTell();
        stationsTell();
        rowsTell();
        theLatestFourAreKnown();
        theLastBeatOfAllIsTold();
        heardRefusesInOrder();
        countsTell();
        soFarEachCountIsItsOwn();
        viewsRecordNothing();
        CHECK.end();
    }

    private static void due(String call, long got, long want) {
        CHECK.due(call, got, want);
    }

    /** After four beats station 0 speaks on wire 1 and station 2 on wire 4; wire 5 has a fault. */
    private static BusSilences busy() {
        BusSilences x = new BusSilences();
        x.station(0b000011);
        x.station(0b010010);
        x.station(0b110000);
        x.stick(5);
        x.word(0, 1, 66);
        x.word(0, 0, 67);
        x.word(0, 1, 68);
        x.word(2, 4, 1);
        x.pass(4);
        return x;
    }

    private static void wiresTell() {
        BusSilences x = busy();
        int[][] want = {
            {4, 0, 0b001, 0, 1, 0, 0},
            {0, 0, 0b011, 0b001, 2, 0, 0},
            {4, 0, 0, 0, 0, 0, 0},
            {4, 0, 0, 0, 0, 0, 0},
            {0, 0, 0b110, 0b100, 1, 0, 0},
            {0, 1, 0b100, 0, 0, 0, 0},
        };
        for (int wire = 0; wire < 6; wire++) {
            for (int what = 0; what < 7; what++) due("ofWire(" + wire + ", " + what + ")", x.ofWire(wire, what), want[wire][what]);
        }
        x.set(BusSilences.TRIES, 1);
        x.doze(2);
        due("lost on 4", x.ofWire(4, 6), 1);
        due("waits for 4", x.ofWire(4, 4), 0);
        x.pass(10);
        due("heard on 1", x.ofWire(1, 5), 1);
        due("heard on 0", x.ofWire(0, 5), 0);
        int[] noWires = {-1, 6, 32, Integer.MAX_VALUE, Integer.MIN_VALUE};
        for (int wire : noWires) due("ofWire(" + wire + ", 9)", x.ofWire(wire, 9), BusSilences.NO_SUCH);
        int[] nothing = {-1, 7, Integer.MAX_VALUE, Integer.MIN_VALUE};
        for (int what : nothing) due("ofWire(0, " + what + ")", x.ofWire(0, what), BusSilences.BAD_VALUE);
    }

    private static void stationsTell() {
        BusSilences x = busy();
        x.doze(1);
        int[][] want = {
            {0b000011, 40, 0, 3, 1, 0b011, 0, 0, 0, 0},
            // Both its wires are low in the fourth beat.
            {0b010010, 39, 2, 0, BusSilences.NONE, 0, 0, 0, 0, 0},
            // Wire 5 is low from the first beat on, wire 4 in the fourth: 1 less in that.
            {0b110000, 39, 0, 1, 1, 0b110, 0, 0, 0, 0},
        };
        for (int station = 0; station < 3; station++) {
            for (int what = 0; what < 10; what++) due("of(" + station + ", " + what + ")", x.of(station, what), want[station][what]);
        }
        x.doze(1);
        due("two are heard", x.pass(10), 2);
        due("of 0", x.of(0, 6), 1);
        due("of 2", x.of(2, 6), 1);
        due("by 1", x.of(1, 8), 2);
        due("by 0", x.of(0, 8), 0);
        x.set(BusSilences.TRIES, 1);
        x.pass(3);
        due("speaks its second word", x.of(0, 4), 3);
        x.doze(0);
        due("lost", x.of(0, 7), 1);
        due("gave up", x.of(0, 9), 1);
        due("one of three left", x.of(0, 3), 1);
        int[] nobody = {-1, 3, 8, 9, Integer.MAX_VALUE, Integer.MIN_VALUE};
        for (int station : nobody) due("of(" + station + ", 99)", x.of(station, 99), BusSilences.NO_SUCH);
        int[] nothing = {-1, 10, Integer.MAX_VALUE, Integer.MIN_VALUE};
        for (int what : nothing) due("of(0, " + what + ")", x.of(0, what), BusSilences.BAD_VALUE);
    }

    private static void rowsTell() {
        BusSilences x = busy();
        due("row(0, 0, 0)", x.row(0, 0, 0), 66);
        due("row(0, 1, 0)", x.row(0, 1, 0), 67);
        due("row(0, 2, 0)", x.row(0, 2, 0), 68);
        due("row(0, 1, 1)", x.row(0, 1, 1), 0);
        due("row(0, 2, 1)", x.row(0, 2, 1), 1);
        x.doze(0);
        due("row(0, 0, 2)", x.row(0, 0, 2), 1);
        due("row(0, 1, 2)", x.row(0, 1, 2), 0);
        due("row(0, 3, 0)", x.row(0, 3, 0), BusSilences.NO_SUCH);
        due("row(0, 3, 9)", x.row(0, 3, 9), BusSilences.NO_SUCH);
        due("row(0, -1, 0)", x.row(0, -1, 0), BusSilences.NO_SUCH);
        due("row(0, MAX, 0)", x.row(0, Integer.MAX_VALUE, 0), BusSilences.NO_SUCH);
        due("row(1, 0, 0)", x.row(1, 0, 0), BusSilences.NO_SUCH);
        due("row(3, 0, 9)", x.row(3, 0, 9), BusSilences.NO_SUCH);
        due("row(-1, 0, 0)", x.row(-1, 0, 0), BusSilences.NO_SUCH);
        due("row(0, 0, 3)", x.row(0, 0, 3), BusSilences.BAD_VALUE);
        due("row(0, 0, -1)", x.row(0, 0, -1), BusSilences.BAD_VALUE);
    }

    private static void theLatestFourAreKnown() {
        BusSilences x = new BusSilences();
        x.station(1);
        x.station(1);
        x.set(BusSilences.REST, 1);
        x.set(BusSilences.LOAD, 0);
        for (int number = 10; number <= 13; number++) x.word(0, 0, number);
        due("the first", x.pass(12), 1);
        due("one is known", x.heard(1, 0, 0), 10);
        due("no second", x.heard(1, 1, 0), BusSilences.NO_SUCH);
        x.word(0, 0, 14);
        due("four more", x.pass(46), 4);
        // Behind 10 and 12, which end with 0, the wire needs a beat of rest.
        int[] numbers = {14, 13, 12, 11};
        int[] beats = {57, 46, 34, 23};
        for (int rank = 0; rank < 4; rank++) {
            due("number " + rank, x.heard(1, rank, 0), numbers[rank]);
            due("speaker " + rank, x.heard(1, rank, 1), 0);
            due("wire " + rank, x.heard(1, rank, 2), 0);
            due("beat " + rank, x.heard(1, rank, 3), beats[rank]);
        }
        due("no fifth", x.heard(1, 4, 0), BusSilences.NO_SUCH);
        due("heard", x.of(1, 8), 5);
    }

    /** "the beat in which it ended, the first beat being 0": of 99999 beats the last one is 99998. */
    private static void theLastBeatOfAllIsTold() {
        BusSilences x = Scenes.withStations(1, 1);
        Scenes.late(x, 11);
        x.word(0, 0, 7);
        due("heard in the last eleven", x.pass(11), 1);
        due("beats", x.count(0), 99999);
        due("its beat", x.heard(1, 0, 3), 99998);
        due("no more beats", x.pass(1), BusSilences.NOT_POSSIBLE);
    }

    private static void heardRefusesInOrder() {
        BusSilences x = new BusSilences();
        due("nobody", x.heard(0, 0, 0), BusSilences.NO_SUCH);
        x.station(1);
        x.station(1);
        due("nothing heard", x.heard(1, 0, 9), BusSilences.NO_SUCH);
        x.word(0, 0, 1);
        x.pass(14);
        due("rank -1", x.heard(1, -1, 0), BusSilences.NO_SUCH);
        due("rank MAX", x.heard(1, Integer.MAX_VALUE, 0), BusSilences.NO_SUCH);
        due("rank 1", x.heard(1, 1, 9), BusSilences.NO_SUCH);
        due("what 4", x.heard(1, 0, 4), BusSilences.BAD_VALUE);
        due("what -1", x.heard(1, 0, -1), BusSilences.BAD_VALUE);
        due("station 2", x.heard(2, 0, 4), BusSilences.NO_SUCH);
        due("station -1", x.heard(-1, 0, 0), BusSilences.NO_SUCH);
    }

    private static void countsTell() {
        BusSilences x = busy();
        x.doze(1);
        x.put('z');
        int[] want = {4, 3, 0b101, 0b101, 4, 0, 0, 0, 0b100000, 118, 3, 40, 1, 1, 4, 1, 6};
        for (int what = 0; what < want.length; what++) due("count(" + what + ")", x.count(what), want[what]);
        x.set(BusSilences.TRIES, 1);
        x.doze(2);
        due("lost", x.count(6), 1);
        due("gave up", x.count(7), 1);
        due("waiting", x.count(4), 3);
        due("nobody heard it, as 1 slept at the end", x.pass(10), 0);
        due("gave up", x.count(7), 2);
        due("lost", x.count(6), 2);
        due("heard", x.count(5), 0);
        int[] nothing = {-1, 17, Integer.MAX_VALUE, Integer.MIN_VALUE};
        for (int what : nothing) due("count(" + what + ")", x.count(what), BusSilences.BAD_VALUE);
    }

    /** No two of the numbers are alike that another count could be taken for. */
    private static void soFarEachCountIsItsOwn() {
        BusSilences x = Scenes.withStations(1, 1, 1, 1, 0b110);
        x.set(BusSilences.LOAD, 0);
        x.set(BusSilences.TRIES, 2);
        x.stick(1);
        x.stick(5);
        for (int word = 0; word < 4; word++) x.word(4, 1, word);
        x.word(0, 0, 0);
        x.word(3, 0, 0);
        due("0 is heard, 3 gives up, and is heard behind it", x.pass(28), 2);
        x.word(1, 0, 5);
        Scenes.giveUpOnce(x, 1);
        Scenes.giveUpOnce(x, 1);
        for (int word = 0; word < 3; word++) x.word(2, 0, word);
        x.pass(4);
        x.doze(3);
        Scenes.write(x, "b1;b2;b3");
        int[] want = {40, 5, 0b00100, 0b10111, 7, 2, 1, 3, 0b100010, 200, 3, 40, 0, 1, 2, 8, 6};
        for (int what = 0; what < want.length; what++) due("count(" + what + ")", x.count(what), want[what]);
        int[][] ofEach = {{1, 0, 1, 0}, {0, 1, 2, 2}, {0, 0, 2, 0}, {1, 0, 1, 1}, {0, 0, 0, 0}};
        for (int station = 0; station < 5; station++) {
            for (int what = 6; what <= 9; what++) due("of(" + station + ", " + what + ")", x.of(station, what), ofEach[station][what - 6]);
        }
    }

    private static void viewsRecordNothing() {
        BusSilences x = Scenes.busy();
        x.undo();
        due("words were heard", x.count(5) > 0 ? 1 : 0, 1);
        due("five left", x.count(16), 5);
        String before = Snapshot.of(x);
        due("views change nothing", Snapshot.of(x).equals(before) ? 1 : 0, 1);
        due("five left", x.count(16), 5);
    }
}
