/**
 * CONVENTIONS: "it names its errors in the order in which they are checked, and the first one that applies is
 * returned", and "NONE (-6) is not an error; it is returned only if no error applies."
 */
public final class ErrorsTest {
    private static final Check CHECK = new Check("ErrorsTest");
    private static final int LEAST = Integer.MIN_VALUE, MOST = Integer.MAX_VALUE;
    private static final int NO_SUCH = BusSilences.NO_SUCH, BAD_VALUE = BusSilences.BAD_VALUE, BAD_TEXT = BusSilences.BAD_TEXT,
        TOO_MANY = BusSilences.TOO_MANY, NOT_POSSIBLE = BusSilences.NOT_POSSIBLE, NONE = BusSilences.NONE;

    public static void main(String[] args) {
        codesAreTheDocuments();
        setChecksOnlyValues();
        stationChecksTheValueAheadOfTheRoom();
        wordChecksFourErrors();
        forgetChecksTheStationAheadOfItsWord();
        stickAndDozeKnowWhatThereIs();
        passChecksTheValueAheadOfTheBound();
        viewsCheckWhoAheadOfWhat();
        rowsCheckTheRankAheadOfWhat();
        endsInChecksThreeErrorsAheadOfNone();
        otherWhatIfsHaveOneError();
        putChecksTheCharactersAheadOfTheRoom();
        textsAndHistoryHaveOneErrorEach();
        CHECK.end();
    }

    private static void due(String call, long got, long want) {
        CHECK.due(call, got, want);
    }

    /** Station 0 has a full row for the wires 0 and 1, station 1 at wire 1 has no word, and wire 0 has a fault. */
    private static BusSilences two() {
        BusSilences x = Scenes.withStations(0b11, 0b10);
        for (int word = 0; word < 4; word++) x.word(0, word / 2, 100 + word);
        x.stick(0);
        return x;
    }

    private static void codesAreTheDocuments() {
        due("NO_SUCH", NO_SUCH, -1);
        due("BAD_VALUE", BAD_VALUE, -2);
        due("BAD_TEXT", BAD_TEXT, -3);
        due("TOO_MANY", TOO_MANY, -4);
        due("NOT_POSSIBLE", NOT_POSSIBLE, -5);
        due("NONE", NONE, -6);
    }

    private static void setChecksOnlyValues() {
        BusSilences x = two();
        for (int setting : new int[] {LEAST, -1, 5, MOST}) {
            due("no such setting", x.set(setting, 3), BAD_VALUE);
            due("no such setting, a bad value", x.set(setting, -1), BAD_VALUE);
        }
        for (int setting = 0; setting < 5; setting++) {
            for (int value : new int[] {LEAST, -1, 100, MOST}) due("a bad value", x.set(setting, value), BAD_VALUE);
        }
    }

    private static void stationChecksTheValueAheadOfTheRoom() {
        BusSilences x = Scenes.withStations(1, 1, 1, 1, 1, 1, 1);
        for (int wires : new int[] {LEAST, -1, 0, 64, MOST}) due("room, station(" + wires + ")", x.station(wires), BAD_VALUE);
        due("the eighth", x.station(63), 7);
        for (int wires : new int[] {LEAST, -1, 0, 64, MOST}) due("no room, station(" + wires + ")", x.station(wires), BAD_VALUE);
        for (int wires : new int[] {1, 63}) due("no room, station(" + wires + ")", x.station(wires), TOO_MANY);
    }

    private static void wordChecksFourErrors() {
        BusSilences x = two();
        for (int station : new int[] {LEAST, -1, 2, 8, MOST}) {
            due("no station", x.word(station, 0, 5), NO_SUCH);
            due("no station, no wire", x.word(station, 6, 5), NO_SUCH);
            due("no station, a bad number", x.word(station, 0, 256), NO_SUCH);
        }
        for (int wire : new int[] {LEAST, -1, 6, 32, MOST}) {
            due("no wire", x.word(1, wire, 5), NO_SUCH);
            due("no wire, a bad number", x.word(1, wire, 256), NO_SUCH);
            due("no wire, a full row", x.word(0, wire, 5), NO_SUCH);
            due("no wire, a bad number, a full row", x.word(0, wire, -1), NO_SUCH);
        }
        for (int number : new int[] {LEAST, -1, 256, MOST}) {
            due("a bad number", x.word(1, 1, number), BAD_VALUE);
            due("a bad number, not at the wire", x.word(1, 0, number), BAD_VALUE);
            due("a bad number, a full row", x.word(0, 0, number), BAD_VALUE);
            due("a bad number, not at the wire, a full row", x.word(0, 2, number), BAD_VALUE);
        }
        due("not at the wire", x.word(1, 0, 5), NOT_POSSIBLE);
        due("not at the wire, a full row", x.word(0, 2, 5), NOT_POSSIBLE);
        due("a full row", x.word(0, 1, 5), TOO_MANY);
        due("no error", x.word(1, 1, 5), 1);
    }

    private static void forgetChecksTheStationAheadOfItsWord() {
        BusSilences x = two();
        for (int station : new int[] {LEAST, -1, 2, 8, MOST}) due("forget(" + station + ")", x.forget(station), NO_SUCH);
        due("no word", x.forget(1), NOT_POSSIBLE);
        for (int word = 0; word < 4; word++) due("a word", x.forget(0), 100 + word);
        due("no word any more", x.forget(0), NOT_POSSIBLE);
    }

    private static void stickAndDozeKnowWhatThereIs() {
        BusSilences x = two();
        for (int wire : new int[] {LEAST, -1, 6, 32, MOST}) due("stick(" + wire + ")", x.stick(wire), NO_SUCH);
        for (int station : new int[] {LEAST, -1, 2, 8, MOST}) due("doze(" + station + ")", x.doze(station), NO_SUCH);
        due("stick(5)", x.stick(5), 1);
        due("doze(1)", x.doze(1), 1);
    }

    private static void passChecksTheValueAheadOfTheBound() {
        BusSilences x = new BusSilences();
        Scenes.late(x, 2);
        for (int beats : new int[] {LEAST, -1, 0, 1000, MOST}) due("pass(" + beats + ")", x.pass(beats), BAD_VALUE);
        for (int beats : new int[] {3, 999}) due("pass(" + beats + ")", x.pass(beats), NOT_POSSIBLE);
        due("up to 99999", x.pass(2), 0);
        due("beats", x.count(0), 99999);
        for (int beats : new int[] {LEAST, 0, 1000, MOST}) due("pass(" + beats + ")", x.pass(beats), BAD_VALUE);
        due("100000", x.pass(1), NOT_POSSIBLE);
    }

    private static void viewsCheckWhoAheadOfWhat() {
        BusSilences x = two();
        for (int what : new int[] {LEAST, -1, 0, 6, 7, 9, 10, MOST}) {
            for (int wire : new int[] {LEAST, -1, 6, 32, MOST}) due("ofWire(" + wire + ", " + what + ")", x.ofWire(wire, what), NO_SUCH);
            for (int station : new int[] {LEAST, -1, 2, 8, MOST}) due("of(" + station + ", " + what + ")", x.of(station, what), NO_SUCH);
        }
        for (int what : new int[] {LEAST, -1, 7, 8, MOST}) due("ofWire(5, " + what + ")", x.ofWire(5, what), BAD_VALUE);
        for (int what : new int[] {LEAST, -1, 10, 11, MOST}) due("of(1, " + what + ")", x.of(1, what), BAD_VALUE);
        for (int what : new int[] {LEAST, -1, 17, 18, MOST}) due("count(" + what + ")", x.count(what), BAD_VALUE);
        due("the last of a wire", x.ofWire(5, 6), 0);
        due("the last of a station", x.of(1, 9), 0);
        due("the last number", x.count(16), 6);
        due("does not speak", x.of(1, 4), NONE);
        due("nobody there, not NONE", x.of(2, 4), NO_SUCH);
    }

    private static void rowsCheckTheRankAheadOfWhat() {
        BusSilences x = Scenes.withStations(1, 1, 1);
        x.set(BusSilences.LOAD, 0);
        for (int word = 0; word < 4; word++) x.word(0, 0, word);
        x.word(1, 0, 0);
        x.forget(1);
        for (int what : new int[] {LEAST, -1, 0, 2, 3, 4, MOST}) {
            for (int station : new int[] {LEAST, -1, 3, 8, MOST}) {
                due("row of " + station, x.row(station, 0, what), NO_SUCH);
                due("heard by " + station, x.heard(station, 0, what), NO_SUCH);
            }
            for (int rank : new int[] {LEAST, -1, 4, 5, MOST}) due("row, rank " + rank, x.row(0, rank, what), NO_SUCH);
            due("no word", x.row(1, 0, what), NO_SUCH);
            due("nothing heard", x.heard(1, 0, what), NO_SUCH);
        }
        for (int what : new int[] {LEAST, -1, 3, 4, MOST}) due("row, what " + what, x.row(0, 3, what), BAD_VALUE);
        due("the last rank", x.row(0, 3, 0), 3);
        due("four words are heard", x.pass(60), 4);
        x.word(0, 0, 4);
        x.pass(14);
        due("and a fifth", x.of(1, 8), 5);
        for (int what : new int[] {LEAST, -1, 0, 4, MOST}) {
            for (int rank : new int[] {LEAST, -1, 4, 5, MOST}) due("heard, rank " + rank, x.heard(1, rank, what), NO_SUCH);
            due("its speaker heard nothing", x.heard(0, 0, what), NO_SUCH);
        }
        for (int what : new int[] {LEAST, -1, 4, 5, MOST}) {
            for (int rank = 0; rank < 4; rank++) due("heard, what " + what, x.heard(1, rank, what), BAD_VALUE);
        }
        due("the last rank", x.heard(1, 3, 0), 1);
    }

    private static void endsInChecksThreeErrorsAheadOfNone() {
        BusSilences x = two();
        for (int what : new int[] {LEAST, -1, 0, 1, 2, MOST}) {
            for (int station : new int[] {LEAST, -1, 2, 8, MOST}) due("endsIn(" + station + ")", x.endsIn(station, what), NO_SUCH);
        }
        for (int what : new int[] {LEAST, -1, 2, MOST}) {
            due("a bad what, no word", x.endsIn(1, what), BAD_VALUE);
            due("a bad what, and it never ends", x.endsIn(0, what), BAD_VALUE);
        }
        for (int what = 0; what <= 1; what++) {
            due("no word", x.endsIn(1, what), NOT_POSSIBLE);
            due("it never ends", x.endsIn(0, what), NONE);
        }
    }

    private static void otherWhatIfsHaveOneError() {
        BusSilences x = two();
        for (int station : new int[] {LEAST, -1, 2, 8, MOST}) {
            due("why(" + station + ")", x.why(station), NO_SUCH);
            due("sleepsIn(" + station + ")", x.sleepsIn(station), NO_SUCH);
        }
        due("it never sleeps", x.sleepsIn(1), NONE);
        for (int what : new int[] {LEAST, -1, 0, 1, 2, MOST}) {
            for (int beats : new int[] {LEAST, -1, 0, 201, MOST}) due("bestRest(" + beats + ")", x.bestRest(beats, what), BAD_VALUE);
        }
        for (int what : new int[] {LEAST, -1, 2, MOST}) {
            for (int beats : new int[] {1, 200}) due("bestRest, what " + what, x.bestRest(beats, what), BAD_VALUE);
        }
        due("it is never quiet", x.quietIn(), NONE);
        due("a wire", x.busiest(), 0);
        due("no word for a wire", new BusSilences().busiest(), NONE);
    }

    private static void putChecksTheCharactersAheadOfTheRoom() {
        BusSilences x = new BusSilences();
        for (int length = 8; length <= 80; length += 8) x.put(Scenes.packed("aaaaaaaa"));
        due("full", x.count(15), 80);
        for (long bad : new long[] {0, 32, 127, 128, 255, 0x6100L, 0x610061L, 0x61000000_00000061L, Long.MIN_VALUE, Long.MAX_VALUE, -1}) {
            due("no room, put(" + Long.toHexString(bad) + ")", x.put(bad), BAD_VALUE);
        }
        due("no room for one", x.put('a'), TOO_MANY);
        due("no room for eight", x.put(Scenes.packed("aaaaaaaa")), TOO_MANY);
        due("a fault is no error", x.fault(), 0);
    }

    private static void textsAndHistoryHaveOneErrorEach() {
        BusSilences x = new BusSilences();
        due("nothing to be undone", x.undo(), NOT_POSSIBLE);
        due("no text", x.carryOut(), BAD_TEXT);
        Scenes.write(x, "b1;b2");
        due("no fault", x.fault(), NONE);
        x.put(';');
        due("a fault", x.carryOut(), BAD_TEXT);
        for (int slot : new int[] {LEAST, -1, 2, MOST}) {
            due("save(" + slot + ")", x.save(slot), BAD_VALUE);
            due("restore(" + slot + ")", x.restore(slot), BAD_VALUE);
        }
        for (int slot = 0; slot <= 1; slot++) {
            due("nothing saved", x.restore(slot), NOT_POSSIBLE);
            due("saved", x.save(slot), 0);
            due("restored", x.restore(slot), 0);
        }
    }
}
