import java.util.List;

/**
 * "A call that returns an error changes nothing." Two objects come the same way; one of them refuses a call. Then both
 * tell all there is, at once or behind other calls: those that show the pad's text, the history's states and the slots.
 */
public final class RefusedTest {
    private static final Check CHECK = new Check("RefusedTest");
    private static final int LEAST = Integer.MIN_VALUE, MOST = Integer.MAX_VALUE;
    private static final int NO_SUCH = BusSilences.NO_SUCH, BAD_VALUE = BusSilences.BAD_VALUE, BAD_TEXT = BusSilences.BAD_TEXT,
        TOO_MANY = BusSilences.TOO_MANY, NOT_POSSIBLE = BusSilences.NOT_POSSIBLE;

    private interface Way {
        BusSilences take();
    }

    private interface Call {
        long on(BusSilences x);
    }

    /** Each ends with a call whose answer is told too; undo() is the sixth at most. */
    private static final List<Call> BEHIND = List.of(x -> 0, x -> undo(x, 1), x -> undo(x, 2), x -> undo(x, 3), x -> undo(x, 4),
        x -> undo(x, 5), x -> undo(x, 6), x -> undo(x, 7), x -> x.restore(0), x -> x.restore(1), BusSilences::wipe, BusSilences::carryOut,
        x -> x.put('1'), x -> x.pass(1), x -> x.pass(9), x -> x.pass(30), x -> x.station(5), x -> x.word(0, 0, 77), x -> x.forget(0));

    public static void main(String[] args) {
        aNewObjectRefuses();
        aCrowdRefuses();
        aFullPadRefuses();
        anAlmostFullPadRefuses();
        lateBeatsRefuse();
        anUndoneObjectRefuses();
        refusedOnesInARow();
        CHECK.end();
    }

    private static long undo(BusSilences x, int times) {
        for (int time = 1; time < times; time++) x.undo();
        return x.undo();
    }

    private static void refused(Way way, String name, Call call, int error) {
        for (int behind = 0; behind < BEHIND.size(); behind++) {
            BusSilences asked = way.take();
            BusSilences left = way.take();
            CHECK.due(name, call.on(asked), error);
            CHECK.due(name + ", then call " + behind, BEHIND.get(behind).on(asked), BEHIND.get(behind).on(left));
            boolean same = Snapshot.whole(asked).equals(Snapshot.whole(left));
            CHECK.due(name + ", then call " + behind + ": they stand alike", same ? 1 : 0, 1);
        }
    }

    private static void aNewObjectRefuses() {
        Way way = BusSilences::new;
        refused(way, "set", x -> x.set(-1, 3), BAD_VALUE);
        refused(way, "set", x -> x.set(5, 3), BAD_VALUE);
        refused(way, "station", x -> x.station(0), BAD_VALUE);
        refused(way, "word", x -> x.word(0, 0, 0), NO_SUCH);
        refused(way, "forget", x -> x.forget(0), NO_SUCH);
        refused(way, "stick", x -> x.stick(6), NO_SUCH);
        refused(way, "doze", x -> x.doze(0), NO_SUCH);
        refused(way, "pass", x -> x.pass(0), BAD_VALUE);
        refused(way, "carryOut", BusSilences::carryOut, BAD_TEXT);
        refused(way, "put", x -> x.put(0), BAD_VALUE);
        refused(way, "undo", BusSilences::undo, NOT_POSSIBLE);
        refused(way, "save", x -> x.save(2), BAD_VALUE);
        refused(way, "restore", x -> x.restore(0), NOT_POSSIBLE);
        refused(way, "restore", x -> x.restore(2), BAD_VALUE);
    }

    /**
     * Eight stations: 0 speaks and has a full row, 1 and 2 have heard and lost words, 3 is put to sleep, 4 is asleep by
     * itself; wire 5 has a fault, slot 0 is taken, and the pad begins as a plan and has a fault at its end.
     */
    private static BusSilences crowd() {
        BusSilences x = new BusSilences();
        x.set(BusSilences.TRIES, 1);
        for (int wires : new int[] {0b11, 0b11, 0b01}) x.station(wires);
        for (int word = 0; word < 4; word++) x.word(0, 0, 60 + word);
        x.word(1, 1, 99);
        x.word(2, 0, 98);
        x.save(0);
        x.pass(15);
        x.station(0b1000);
        x.set(BusSilences.FULL, 2);
        x.station(0b100000);
        x.set(BusSilences.FULL, 30);
        for (int wires : new int[] {0b10, 0b100, 0b111111}) x.station(wires);
        x.word(0, 1, 250);
        x.doze(3);
        x.word(3, 3, 11);
        x.stick(5);
        x.pass(5);
        Scenes.write(x, "b3;sa;w0a=");
        return x;
    }

    private static void aCrowdRefuses() {
        BusSilences shown = crowd();
        CHECK.due("station 0 speaks", shown.of(0, 4) > 0 ? 1 : 0, 1);
        CHECK.due("its row is full", shown.of(0, 3), 4);
        CHECK.due("station 1 heard", shown.of(1, 8) > 0 ? 1 : 0, 1);
        CHECK.due("somebody lost", shown.count(6) > 0 ? 1 : 0, 1);
        CHECK.due("station 3 is put to sleep", shown.of(3, 2), 2);
        CHECK.due("station 4 is asleep by itself", shown.of(4, 2), 1);
        CHECK.due("the history is full", shown.count(16), 6);
        aCrowdRefusesChanges(RefusedTest::crowd);
        aCrowdRefusesViews(RefusedTest::crowd);
        aCrowdRefusesTextsAndSlots(RefusedTest::crowd);
    }

    private static void aCrowdRefusesChanges(Way way) {
        int[][] settings = {{0, 0}, {0, 21}, {1, 1}, {1, 100}, {2, -1}, {2, 10}, {3, -1}, {3, 10}, {4, 0}, {4, 10}, {-1, 3}, {5, 3}};
        for (int[] pair : settings) refused(way, "set(" + pair[0] + ", " + pair[1] + ")", x -> x.set(pair[0], pair[1]), BAD_VALUE);
        for (int wires : new int[] {0, -1, 64, LEAST, MOST}) refused(way, "station(" + wires + ")", x -> x.station(wires), BAD_VALUE);
        refused(way, "a ninth station", x -> x.station(3), TOO_MANY);
        for (int none : new int[] {-1, 8, LEAST, MOST}) {
            refused(way, "word of " + none, x -> x.word(none, 0, 5), NO_SUCH);
            refused(way, "word for " + none, x -> x.word(7, none, 5), NO_SUCH);
            refused(way, "forget(" + none + ")", x -> x.forget(none), NO_SUCH);
            refused(way, "stick(" + none + ")", x -> x.stick(none), NO_SUCH);
            refused(way, "doze(" + none + ")", x -> x.doze(none), NO_SUCH);
        }
        for (int number : new int[] {-1, 256}) refused(way, "word " + number, x -> x.word(7, 0, number), BAD_VALUE);
        refused(way, "a word not at its wire", x -> x.word(6, 0, 5), NOT_POSSIBLE);
        refused(way, "a fifth word", x -> x.word(0, 0, 5), TOO_MANY);
        refused(way, "forget without a word", x -> x.forget(6), NOT_POSSIBLE);
        for (int beats : new int[] {0, -1, 1000, LEAST, MOST}) refused(way, "pass(" + beats + ")", x -> x.pass(beats), BAD_VALUE);
    }

    private static void aCrowdRefusesViews(Way way) {
        refused(way, "ofWire", x -> x.ofWire(6, 0), NO_SUCH);
        refused(way, "ofWire", x -> x.ofWire(0, 7), BAD_VALUE);
        refused(way, "of", x -> x.of(8, 0), NO_SUCH);
        refused(way, "of", x -> x.of(0, 10), BAD_VALUE);
        refused(way, "row", x -> x.row(0, 4, 0), NO_SUCH);
        refused(way, "row", x -> x.row(0, 0, 3), BAD_VALUE);
        refused(way, "heard", x -> x.heard(1, 4, 0), NO_SUCH);
        refused(way, "heard", x -> x.heard(1, 0, 4), BAD_VALUE);
        refused(way, "count", x -> x.count(17), BAD_VALUE);
        refused(way, "why", x -> x.why(8), NO_SUCH);
        refused(way, "endsIn", x -> x.endsIn(8, 0), NO_SUCH);
        refused(way, "endsIn", x -> x.endsIn(0, 2), BAD_VALUE);
        refused(way, "endsIn", x -> x.endsIn(6, 0), NOT_POSSIBLE);
        refused(way, "bestRest", x -> x.bestRest(201, 0), BAD_VALUE);
        refused(way, "bestRest", x -> x.bestRest(200, 2), BAD_VALUE);
        refused(way, "sleepsIn", x -> x.sleepsIn(8), NO_SUCH);
    }

    private static void aCrowdRefusesTextsAndSlots(Way way) {
        for (long bad : new long[] {0, 32, 127, 0x310031L, 0x3100L, 0x3120L, 0x2031L, Long.MIN_VALUE | '1'}) {
            refused(way, "put(" + Long.toHexString(bad) + ")", x -> x.put(bad), BAD_VALUE);
        }
        refused(way, "carryOut with a fault", BusSilences::carryOut, BAD_TEXT);
        for (int slot : new int[] {-1, 2, LEAST, MOST}) {
            refused(way, "save(" + slot + ")", x -> x.save(slot), BAD_VALUE);
            refused(way, "restore(" + slot + ")", x -> x.restore(slot), BAD_VALUE);
        }
        refused(way, "restore(1)", x -> x.restore(1), NOT_POSSIBLE);
    }

    private static void aFullPadRefuses() {
        Way way = () -> padOf("b1;".repeat(26) + "b2");
        CHECK.due("80", way.take().count(15), 80);
        refused(way, "an 81st character", x -> x.put('3'), TOO_MANY);
        refused(way, "eight more", x -> x.put(Scenes.packed(";b999;sa")), TOO_MANY);
        refused(way, "a bad one", x -> x.put(' '), BAD_VALUE);
    }

    private static void anAlmostFullPadRefuses() {
        Way way = () -> padOf("b1;".repeat(26) + "b");
        CHECK.due("79", way.take().count(15), 79);
        refused(way, "two more", x -> x.put(Scenes.packed("23")), TOO_MANY);
        refused(way, "eight more", x -> x.put(Scenes.packed("23456789")), TOO_MANY);
        refused(way, "an end too early", BusSilences::carryOut, BAD_TEXT);
    }

    private static BusSilences padOf(String text) {
        BusSilences x = Scenes.withStations(1, 3);
        x.word(0, 0, 7);
        Scenes.write(x, text);
        return x;
    }

    private static void lateBeatsRefuse() {
        Way way = () -> {
            BusSilences x = Scenes.withStations(1, 3);
            Scenes.late(x, 9);
            x.word(0, 0, 7);
            return x;
        };
        CHECK.due("nine are left", way.take().count(0), 99990);
        refused(way, "pass(10)", x -> x.pass(10), NOT_POSSIBLE);
        refused(way, "pass(999)", x -> x.pass(999), NOT_POSSIBLE);
        refused(way, "pass(1000)", x -> x.pass(1000), BAD_VALUE);
    }

    private static void anUndoneObjectRefuses() {
        Way way = () -> {
            BusSilences x = Scenes.withStations(1, 3);
            x.pass(2);
            x.save(1);
            for (int change = 0; change < 6; change++) x.word(change % 2, 0, change);
            for (int change = 0; change < 6; change++) x.undo();
            Scenes.write(x, "b5;z0");
            return x;
        };
        CHECK.due("nothing to be undone", way.take().count(16), 0);
        refused(way, "undo", BusSilences::undo, NOT_POSSIBLE);
        refused(way, "restore(0)", x -> x.restore(0), NOT_POSSIBLE);
        refused(way, "a fault behind it", x -> x.forget(0), NOT_POSSIBLE);
    }

    /** Many refused calls leave the history's states as they are, too. */
    private static void refusedOnesInARow() {
        Call row = x -> {
            long errors = 0;
            for (int times = 0; times < 8; times++) {
                errors += x.set(0, 21) + x.station(64) + x.word(0, 9, 0) + x.forget(6) + x.stick(6) + x.doze(8) + x.pass(0);
                errors += x.carryOut() + x.restore(1) + x.save(2) + x.put(0);
            }
            return errors;
        };
        int once = 5 * BAD_VALUE + 3 * NO_SUCH + 2 * NOT_POSSIBLE + BAD_TEXT;
        refused(RefusedTest::crowd, "eight times eleven", row, 8 * once);
    }
}
