/** Promises 24 to 26: undo, save and restore. */
public final class HistoryTest {
    private static final Check CHECK = new Check("HistoryTest");

    public static void main(String[] args) {
        everyChangeCanBeUndone();
        sixChangesAreKept();
        errorsRecordNothing();
        otherCallsRecordNothing();
        changesThatChangeNothingAreRecorded();
        undoLeavesPadSlotsAndHistory();
        everyChangeIsRecordedOnce();
        aWordGoesOnAsItWas();
        whatWasHeardIsUndone();
        countsSoFarAreUndone();
        stationsComeBackWithTheirWires();
        undoneStationsComeFresh();
        saveAndRestore();
        slotsKeepWhatTheyRestore();
        slotsStandApart();
        restoreIsAChange();
        slotsRefuse();
        CHECK.end();
    }

    private static void due(String call, long got, long want) {
        CHECK.due(call, got, want);
    }

    private static void same(String call, String got, String want) {
        due(call, got.equals(want) ? 1 : 0, 1);
    }

    private static void change(BusSilences x, int kind) {
        switch (kind) {
            case 0: due("set", x.set(BusSilences.FULL, 9), 40); break;
            case 1: due("station", x.station(9), 3); break;
            case 2: due("word", x.word(1, 0, 77) > 0 ? 1 : 0, 1); break;
            case 3: due("forget", x.forget(2) >= 0 ? 1 : 0, 1); break;
            case 4: due("stick", x.stick(0), 1); break;
            case 5: due("doze", x.doze(2), 1); break;
            case 6: due("pass", x.pass(7) >= 0 ? 1 : 0, 1); break;
            case 7: due("restore", x.restore(0), 3); break;
            default:
                Scenes.write(x, "!a;z1;b9;sa");
                due("carryOut", x.carryOut(), 4);
        }
    }

    /** Those of the kinds from 0 up to this one, made one after the other. */
    private static BusSilences changedUpTo(int kinds) {
        BusSilences x = Scenes.busy();
        for (int kind = 0; kind < kinds; kind++) change(x, kind);
        return x;
    }

    private static void everyChangeCanBeUndone() {
        for (int kind = 0; kind <= 8; kind++) {
            BusSilences left = Scenes.busy();
            BusSilences x = Scenes.busy();
            if (kind == 7) {
                left.pass(3);
                x.pass(3);
            }
            String before = Snapshot.of(left);
            change(x, kind);
            due("something is different, kind " + kind, Snapshot.of(x).equals(before) ? 0 : 1, 1);
            due("undo", x.undo(), 5);
            same("undone, kind " + kind, Snapshot.of(x), before);
        }
        for (int kinds = 0; kinds < 6; kinds++) {
            BusSilences x = changedUpTo(6);
            for (int left = 5; left >= kinds; left--) due("undo", x.undo(), left);
            same("undone down to " + kinds, Snapshot.of(x), Snapshot.of(changedUpTo(kinds)));
        }
    }

    private static void sixChangesAreKept() {
        BusSilences x = new BusSilences();
        for (int change = 1; change <= 9; change++) {
            x.pass(1);
            due("changes", x.count(16), Math.min(change, 6));
        }
        for (int left = 5; left >= 0; left--) {
            due("undo", x.undo(), left);
            due("beats", x.count(0), 3 + left);
        }
        due("no more", x.undo(), BusSilences.NOT_POSSIBLE);
        due("beats", x.count(0), 3);
        x.pass(2);
        x.pass(5);
        due("undo", x.undo(), 1);
        due("beats", x.count(0), 5);
        x.pass(9);
        due("undo", x.undo(), 1);
        due("undo", x.undo(), 0);
        due("beats", x.count(0), 3);
    }

    private static void errorsRecordNothing() {
        BusSilences x = new BusSilences();
        x.station(1);
        x.set(9, 9);
        x.station(0);
        x.word(0, 5, 5);
        x.forget(0);
        x.stick(6);
        x.doze(1);
        x.pass(0);
        x.restore(0);
        x.restore(2);
        x.carryOut();
        due("only the station", x.count(16), 1);
        due("undo", x.undo(), 0);
        due("undo", x.undo(), BusSilences.NOT_POSSIBLE);
        due("no station", x.count(1), 0);
    }

    private static void otherCallsRecordNothing() {
        BusSilences x = Scenes.busy();
        due("two speak", Integer.bitCount(x.count(2)), 2);
        x.undo();
        Snapshot.of(x);
        x.why(0);
        x.endsIn(0, 0);
        x.quietIn();
        x.bestRest(9, 0);
        x.busiest();
        x.sleepsIn(0);
        x.put('q');
        x.fault();
        x.wipe();
        x.save(1);
        due("changes", x.count(16), 5);
        due("undo", x.undo(), 4);
    }

    private static void changesThatChangeNothingAreRecorded() {
        BusSilences x = new BusSilences();
        x.set(BusSilences.REST, 3);
        due("set", x.count(16), 1);
        x.save(0);
        x.restore(0);
        due("restore", x.count(16), 2);
        Scenes.write(x, "z0");
        due("no order", x.carryOut(), 0);
        due("carryOut", x.count(16), 3);
        due("undo", x.undo(), 2);
    }

    private static void undoLeavesPadSlotsAndHistory() {
        BusSilences x = new BusSilences();
        x.station(1);
        x.pass(8);
        x.save(1);
        x.put('b' << 8 | '3');
        due("undo", x.undo(), 1);
        due("pad", x.count(15), 2);
        due("undo", x.undo(), 0);
        due("no station", x.count(1), 0);
        due("the slot is kept", x.restore(1), 1);
        due("beats", x.count(0), 8);
        due("the pad is kept", x.carryOut(), 1);
        due("beats", x.count(0), 11);
        due("changes", x.count(16), 2);
        due("undo carryOut", x.undo(), 1);
        due("the pad stays empty", x.count(15), 0);
        due("beats", x.count(0), 8);
        due("undo restore", x.undo(), 0);
        due("beats", x.count(0), 0);
    }

    /** "each method that is a change, and returns no error, records the state before it" */
    private static void everyChangeIsRecordedOnce() {
        BusSilences x = new BusSilences();
        due("station", x.station(1), 0);
        due("recorded", x.count(16), 1);
        due("word", x.word(0, 0, 9), 1);
        due("recorded", x.count(16), 2);
        due("forget", x.forget(0), 9);
        due("recorded", x.count(16), 3);
        due("stick", x.stick(0), 1);
        due("recorded", x.count(16), 4);
        due("doze", x.doze(0), 1);
        due("recorded", x.count(16), 5);
        due("pass", x.pass(1), 0);
        due("recorded", x.count(16), 6);
        x = new BusSilences();
        due("set", x.set(BusSilences.REST, 9), 3);
        due("recorded", x.count(16), 1);
        due("save", x.save(1), 0);
        due("not recorded", x.count(16), 1);
        due("restore", x.restore(1), 0);
        due("recorded", x.count(16), 2);
        Scenes.write(x, "sa;sb;b1;z0");
        due("not recorded", x.count(16), 2);
        due("carryOut", x.carryOut(), 4);
        due("recorded", x.count(16), 3);
        due("undo", x.undo(), 2);
        due("not recorded", x.count(16), 2);
    }

    /** The bits of a word that is half spoken, and how far it is, come back with it. */
    private static void aWordGoesOnAsItWas() {
        for (int spoken = 1; spoken <= 10; spoken++) {
            for (int kind = 0; kind <= 1; kind++) {
                BusSilences x = Scenes.withStations(1, 1);
                x.word(1, 0, 0b10110010);
                x.word(1, 0, 0b01001101);
                x.pass(3 + spoken);
                x.save(0);
                x.pass(19 - spoken);
                due("the next word is in its middle", x.of(1, 4), 5);
                due("gone back", kind == 0 ? x.undo() : x.restore(0), kind == 0 ? 5 : 2);
                due("the beat that comes next", x.of(1, 4), spoken);
                due("its listeners", x.of(1, 5), 0b11);
                int bits = 0;
                for (int beat = spoken; beat <= 10; beat++) {
                    x.pass(1);
                    bits = bits * 2 + (x.ofWire(0, 0) > 0 ? 1 : 0);
                }
                due("the bits that were left", bits, (1 << 8 | 0b10110010) & (1 << 11 - spoken) - 1);
                due("heard", x.heard(0, 0, 0), 0b10110010);
            }
        }
    }

    private static void whatWasHeardIsUndone() {
        BusSilences x = new BusSilences();
        x.station(1);
        x.station(1);
        x.word(0, 0, 3);
        x.pass(14);
        due("heard", x.heard(1, 0, 0), 3);
        x.undo();
        due("not heard", x.heard(1, 0, 0), BusSilences.NO_SUCH);
        due("waits again", x.count(4), 1);
    }

    private static void countsSoFarAreUndone() {
        BusSilences x = Scenes.withStations(1, 1);
        x.set(BusSilences.TRIES, 1);
        x.word(0, 0, 3);
        x.word(1, 0, 4);
        x.pass(14);
        int[][] then = {{1, 0, 0, 0}, {0, 1, 1, 1}};
        for (int station = 0; station <= 1; station++) {
            for (int what = 6; what <= 9; what++) due("of(" + station + ", " + what + ")", x.of(station, what), then[station][what - 6]);
        }
        due("heard on the wire", x.ofWire(0, 5), 1);
        due("lost on the wire", x.ofWire(0, 6), 1);
        x.undo();
        for (int station = 0; station <= 1; station++) {
            for (int what = 6; what <= 9; what++) due("undone, of(" + station + ", " + what + ")", x.of(station, what), 0);
        }
        due("undone on the wire", x.ofWire(0, 5), 0);
        due("undone on the wire", x.ofWire(0, 6), 0);
        for (int what = 5; what <= 7; what++) due("undone, count(" + what + ")", x.count(what), 0);
    }

    private static void stationsComeBackWithTheirWires() {
        BusSilences x = Scenes.withStations(0b000111);
        x.save(0);
        x.undo();
        x.station(0b110000);
        due("restore", x.restore(0), 1);
        due("the wires that were saved", x.of(0, 0), 0b000111);
        x.undo();
        due("the wires ahead of it", x.of(0, 0), 0b110000);
    }

    private static void undoneStationsComeFresh() {
        BusSilences x = new BusSilences();
        x.station(1);
        x.station(1);
        x.word(1, 0, 3);
        x.pass(5);
        for (int times = 0; times < 3; times++) x.undo();
        due("stations", x.count(1), 1);
        due("no such", x.of(1, 0), BusSilences.NO_SUCH);
        x.set(BusSilences.FULL, 12);
        due("comes again", x.station(2), 1);
        int[] want = {2, 12, 0, 0, BusSilences.NONE, 0, 0, 0, 0, 0};
        for (int what = 0; what <= 9; what++) due("fresh " + what, x.of(1, what), want[what]);
    }

    /** Saved in slot 1, and much different since. */
    private static BusSilences savedAndChanged() {
        BusSilences x = Scenes.busy();
        due("save", x.save(1), 3);
        x.set(BusSilences.REST, 7);
        x.station(32);
        x.stick(5);
        x.pass(99);
        x.put('q');
        return x;
    }

    private static void saveAndRestore() {
        BusSilences kept = Scenes.busy();
        BusSilences x = savedAndChanged();
        due("restore", x.restore(1), 3);
        same("restored", Snapshot.of(x), Snapshot.of(kept));
        due("the pad stays", x.count(15), 1);
        due("the history stays", x.count(16), 6);
        kept.pass(50);
        x.pass(50);
        same("and goes on alike", Snapshot.of(x), Snapshot.of(kept));
    }

    private static void slotsKeepWhatTheyRestore() {
        BusSilences x = savedAndChanged();
        due("restore", x.restore(1), 3);
        x.pass(50);
        due("the slot keeps it", x.restore(1), 3);
        same("restored again", Snapshot.of(x), Snapshot.of(Scenes.busy()));
        x.pass(50);
        due("overwrite", x.save(1), 3);
        x.pass(5);
        due("restore", x.restore(1), 3);
        BusSilences later = Scenes.busy();
        later.pass(50);
        same("the last one saved", Snapshot.of(x), Snapshot.of(later));
    }

    private static void slotsStandApart() {
        BusSilences x = new BusSilences();
        due("save nothing", x.save(0), 0);
        due("the other is empty", x.restore(1), BusSilences.NOT_POSSIBLE);
        x.station(1);
        due("save", x.save(1), 1);
        x.station(1);
        due("restore 0", x.restore(0), 0);
        due("restore 1", x.restore(1), 1);
        due("restore 0", x.restore(0), 0);
        due("stations", x.count(1), 0);
        for (int station = 0; station < 8; station++) {
            x.station(1);
            due("saved stations", x.save(station % 2), station + 1);
        }
        due("restore 0", x.restore(0), 7);
        due("restore 1", x.restore(1), 8);
    }

    private static void restoreIsAChange() {
        BusSilences x = new BusSilences();
        x.save(0);
        x.station(1);
        x.restore(0);
        due("changes", x.count(16), 2);
        due("undo", x.undo(), 1);
        due("stations", x.count(1), 1);
    }

    private static void slotsRefuse() {
        BusSilences x = new BusSilences();
        int[] bad = {-1, 2, Integer.MAX_VALUE, Integer.MIN_VALUE};
        for (int slot : bad) {
            due("save(" + slot + ")", x.save(slot), BusSilences.BAD_VALUE);
            due("restore(" + slot + ")", x.restore(slot), BusSilences.BAD_VALUE);
        }
        due("restore(0)", x.restore(0), BusSilences.NOT_POSSIBLE);
        due("restore(1)", x.restore(1), BusSilences.NOT_POSSIBLE);
    }
}
