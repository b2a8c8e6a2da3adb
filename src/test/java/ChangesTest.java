/** Promises 1 to 8: a new object, and the changes. */
public final class ChangesTest {
    private static final Check CHECK = new Check("ChangesTest");

    public static void main(String[] args) {
        newObject();
        objectsShareNothing();
        setChangesASetting();
        setRefuses();
        setFullTakesTheChargeAbove();
        stationComes();
        stationRefuses();
        wordGoesBehindTheOthers();
        wordRefusesInOrder();
        forgetDropsTheFirstWord();
        forgetStopsTheWordThatIsSpoken();
        stickTurnsTheFaultOverAndBack();
        dozeGivesUp();
        dozeLosesAtTheLastTry();
        aNewWordWasNeverTried();
        dozeLeavesTheSleepOfAnEmptyStation();
        otherChangesLetAWordGoOn();
        passRefuses();
        passStopsAtTheGreatestBeat();
        passTellsTheWordsOfItsBeats();
        CHECK.end();
    }

    private static void due(String call, long got, long want) {
        CHECK.due(call, got, want);
    }

    private static void newObject() {
        BusSilences x = new BusSilences();
        for (int what = 0; what <= 9; what++) due("new count(" + what + ")", x.count(what), 0);
        due("new REST", x.count(10), 3);
        due("new FULL", x.count(11), 40);
        due("new LOAD", x.count(12), 1);
        due("new FEED", x.count(13), 1);
        due("new TRIES", x.count(14), 4);
        due("new pad", x.count(15), 0);
        due("new history", x.count(16), 0);
        for (int wire = 0; wire < 6; wire++) {
            for (int what = 0; what <= 6; what++) due("new ofWire(" + wire + ", " + what + ")", x.ofWire(wire, what), 0);
        }
        due("new of", x.of(0, 0), BusSilences.NO_SUCH);
        due("new undo", x.undo(), BusSilences.NOT_POSSIBLE);
        due("new restore", x.restore(0), BusSilences.NOT_POSSIBLE);
        due("new restore", x.restore(1), BusSilences.NOT_POSSIBLE);
        due("new fault", x.fault(), 0);
    }

    private static void objectsShareNothing() {
        BusSilences one = new BusSilences();
        BusSilences other = new BusSilences();
        one.station(63);
        one.set(BusSilences.REST, 9);
        one.put('z');
        one.pass(5);
        one.save(0);
        due("other count(0)", other.count(0), 0);
        due("other count(1)", other.count(1), 0);
        due("other REST", other.count(10), 3);
        due("other pad", other.count(15), 0);
        due("other restore", other.restore(0), BusSilences.NOT_POSSIBLE);
        due("fresh REST", new BusSilences().count(10), 3);
    }

    private static void setChangesASetting() {
        int[] lowest = {1, 2, 0, 0, 1};
        int[] greatest = {20, 99, 9, 9, 9};
        int[] first = {3, 40, 1, 1, 4};
        BusSilences x = new BusSilences();
        for (int setting = 0; setting < 5; setting++) {
            due("set lowest of " + setting, x.set(setting, lowest[setting]), first[setting]);
            due("lowest of " + setting, x.count(10 + setting), lowest[setting]);
            due("set greatest of " + setting, x.set(setting, greatest[setting]), lowest[setting]);
            due("set greatest again", x.set(setting, greatest[setting]), greatest[setting]);
            due("below the lowest of " + setting, x.set(setting, lowest[setting] - 1), BusSilences.BAD_VALUE);
            due("above the greatest of " + setting, x.set(setting, greatest[setting] + 1), BusSilences.BAD_VALUE);
            due("greatest of " + setting, x.count(10 + setting), greatest[setting]);
        }
    }

    private static void setRefuses() {
        BusSilences x = new BusSilences();
        due("set(-1)", x.set(-1, 3), BusSilences.BAD_VALUE);
        due("set(5)", x.set(5, 3), BusSilences.BAD_VALUE);
        due("set(MAX)", x.set(Integer.MAX_VALUE, 3), BusSilences.BAD_VALUE);
        due("set(MIN)", x.set(Integer.MIN_VALUE, 3), BusSilences.BAD_VALUE);
        due("set(0, MIN)", x.set(0, Integer.MIN_VALUE), BusSilences.BAD_VALUE);
        due("set(0, MAX)", x.set(0, Integer.MAX_VALUE), BusSilences.BAD_VALUE);
        due("nothing recorded", x.count(16), 0);
    }

    private static void setFullTakesTheChargeAbove() {
        BusSilences x = new BusSilences();
        x.station(1);
        x.set(BusSilences.FULL, 10);
        x.station(1);
        due("charge above is gone", x.of(0, 1), 10);
        x.set(BusSilences.FULL, 50);
        due("charge stays below", x.of(0, 1), 10);
        x.station(1);
        due("a new one has FULL", x.of(2, 1), 50);
        due("charge of all", x.count(9), 70);
        x.set(BusSilences.FULL, 30);
        due("charge of all, cut", x.count(9), 50);
        for (int station = 3; station < 8; station++) x.station(1);
        x.set(BusSilences.FULL, 2);
        due("charge of eight, cut", x.count(9), 16);
    }

    private static void stationComes() {
        BusSilences x = new BusSilences();
        for (int number = 0; number < 8; number++) due("station", x.station(number + 1), number);
        for (int number = 0; number < 8; number++) {
            due("wires", x.of(number, 0), number + 1);
            due("charge", x.of(number, 1), 40);
            due("awake", x.of(number, 2), 0);
            due("no words", x.of(number, 3), 0);
            due("does not speak", x.of(number, 4), BusSilences.NONE);
            for (int what = 5; what <= 9; what++) due("fresh of " + what, x.of(number, what), 0);
        }
        due("a ninth", x.station(1), BusSilences.TOO_MANY);
        due("a ninth of no wires", x.station(0), BusSilences.BAD_VALUE);
        due("stations", x.count(1), 8);
        due("awake", x.count(3), 255);
        due("recorded", x.count(16), 6);
    }

    private static void stationRefuses() {
        BusSilences x = new BusSilences();
        int[] bad = {0, -1, 64, Integer.MAX_VALUE, Integer.MIN_VALUE};
        for (int wires : bad) due("station(" + wires + ")", x.station(wires), BusSilences.BAD_VALUE);
        due("stations", x.count(1), 0);
        due("recorded", x.count(16), 0);
        due("station(63)", x.station(63), 0);
        due("station(1)", x.station(1), 1);
    }

    private static void wordGoesBehindTheOthers() {
        BusSilences x = new BusSilences();
        x.station(0b101);
        due("word 1", x.word(0, 2, 255), 1);
        due("word 2", x.word(0, 0, 0), 2);
        due("word 3", x.word(0, 2, 17), 3);
        due("word 4", x.word(0, 2, 17), 4);
        int[] numbers = {255, 0, 17, 17};
        int[] wires = {2, 0, 2, 2};
        for (int rank = 0; rank < 4; rank++) {
            due("number " + rank, x.row(0, rank, 0), numbers[rank]);
            due("wire " + rank, x.row(0, rank, 1), wires[rank]);
            due("tries " + rank, x.row(0, rank, 2), 0);
        }
        due("words in the row", x.of(0, 3), 4);
        due("words for 2", x.ofWire(2, 4), 3);
        due("words for 0", x.ofWire(0, 4), 1);
        due("words for 1", x.ofWire(1, 4), 0);
        due("words", x.count(4), 4);
    }

    private static void wordRefusesInOrder() {
        BusSilences x = new BusSilences();
        due("no station yet", x.word(0, 0, 0), BusSilences.NO_SUCH);
        x.station(0b11);
        due("station -1", x.word(-1, 0, 0), BusSilences.NO_SUCH);
        due("station 1", x.word(1, 0, 0), BusSilences.NO_SUCH);
        due("wire -1, bad number", x.word(0, -1, 256), BusSilences.NO_SUCH);
        due("wire 6, bad number", x.word(0, 6, -1), BusSilences.NO_SUCH);
        due("wire 32", x.word(0, 32, 0), BusSilences.NO_SUCH);
        due("number 256, not at the wire", x.word(0, 3, 256), BusSilences.BAD_VALUE);
        due("number -1", x.word(0, 0, -1), BusSilences.BAD_VALUE);
        due("not at the wire", x.word(0, 2, 255), BusSilences.NOT_POSSIBLE);
        for (int n = 1; n <= 4; n++) due("word", x.word(0, 1, n), n);
        due("a fifth", x.word(0, 0, 5), BusSilences.TOO_MANY);
        due("a fifth, not at the wire", x.word(0, 2, 5), BusSilences.NOT_POSSIBLE);
        due("a fifth, bad number", x.word(0, 0, 256), BusSilences.BAD_VALUE);
        due("words", x.count(4), 4);
        due("recorded", x.count(16), 5);
    }

    private static void forgetDropsTheFirstWord() {
        BusSilences x = new BusSilences();
        due("no such", x.forget(0), BusSilences.NO_SUCH);
        x.station(0b11);
        due("no word", x.forget(0), BusSilences.NOT_POSSIBLE);
        due("no such -1", x.forget(-1), BusSilences.NO_SUCH);
        x.word(0, 0, 7);
        x.word(0, 1, 0);
        due("forget", x.forget(0), 7);
        due("the next is first", x.row(0, 0, 0), 0);
        due("its wire", x.row(0, 0, 1), 1);
        due("one left", x.of(0, 3), 1);
        due("forget", x.forget(0), 0);
        due("none left", x.forget(0), BusSilences.NOT_POSSIBLE);
        due("not lost", x.count(6), 0);
        due("not heard", x.count(5), 0);
    }

    private static void forgetStopsTheWordThatIsSpoken() {
        BusSilences x = new BusSilences();
        x.station(1);
        x.station(1);
        x.word(0, 0, 1);
        x.word(0, 0, 2);
        x.pass(6);
        due("speaks", x.of(0, 4), 3);
        due("its listeners", x.of(0, 5), 3);
        due("forget", x.forget(0), 1);
        due("does not speak", x.of(0, 4), BusSilences.NONE);
        due("nobody listens", x.of(0, 5), 0);
        due("did not give up", x.of(0, 9), 0);
        due("the next was not tried", x.row(0, 0, 2), 0);
        due("nobody speaks", x.count(2), 0);
        // Three beats of rest and eleven beats of the word that is first now.
        due("12 beats", x.pass(13), 0);
        due("the 14th", x.pass(1), 1);
        due("the word", x.heard(1, 0, 0), 2);
    }

    private static void stickTurnsTheFaultOverAndBack() {
        BusSilences x = new BusSilences();
        due("stick(-1)", x.stick(-1), BusSilences.NO_SUCH);
        due("stick(6)", x.stick(6), BusSilences.NO_SUCH);
        x.pass(5);
        due("stick(5)", x.stick(5), 1);
        due("stick(0)", x.stick(0), 1);
        due("faults", x.count(8), 0b100001);
        due("a fault", x.ofWire(5, 1), 1);
        due("still high for", x.ofWire(5, 0), 5);
        x.pass(1);
        due("low", x.ofWire(5, 0), 0);
        due("high", x.ofWire(4, 0), 6);
        due("stick(5) back", x.stick(5), 0);
        due("faults", x.count(8), 1);
        x.pass(2);
        due("high again", x.ofWire(5, 0), 2);
        due("low still", x.ofWire(0, 0), 0);
    }

    private static void dozeGivesUp() {
        BusSilences x = new BusSilences();
        due("no such", x.doze(0), BusSilences.NO_SUCH);
        x.station(1);
        due("no such -1", x.doze(-1), BusSilences.NO_SUCH);
        due("no such 1", x.doze(1), BusSilences.NO_SUCH);
        x.word(0, 0, 0);
        x.pass(5);
        due("speaks", x.of(0, 4), 2);
        due("doze", x.doze(0), 1);
        due("put to sleep", x.of(0, 2), 2);
        due("does not speak", x.of(0, 4), BusSilences.NONE);
        due("nobody listens", x.of(0, 5), 0);
        due("gave up", x.of(0, 9), 1);
        due("tried", x.row(0, 0, 2), 1);
        due("none awake", x.count(3), 0);
        due("word stays", x.count(4), 1);
        due("sleeps on", x.pass(50), 0);
        due("charge is full, as it uses none", x.of(0, 1), 40);
        due("awake", x.doze(0), 0);
        due("awake", x.of(0, 2), 0);
        due("gave up once", x.of(0, 9), 1);
        due("heard at once", x.pass(11), 1);
    }

    private static void dozeLosesAtTheLastTry() {
        BusSilences x = new BusSilences();
        x.station(2);
        x.word(0, 1, 9);
        x.word(0, 1, 8);
        x.set(BusSilences.TRIES, 2);
        x.pass(4);
        x.doze(0);
        x.doze(0);
        due("tried once", x.row(0, 0, 2), 1);
        x.pass(4);
        due("speaks again", x.of(0, 4), 1);
        x.doze(0);
        due("lost", x.of(0, 7), 1);
        due("lost on the wire", x.ofWire(1, 6), 1);
        due("lost in all", x.count(6), 1);
        due("the next word", x.row(0, 0, 0), 8);
        due("not tried", x.row(0, 0, 2), 0);
        due("gave up twice", x.count(7), 2);
    }

    private static void aNewWordWasNeverTried() {
        BusSilences x = new BusSilences();
        x.station(1);
        x.word(0, 0, 9);
        x.pass(4);
        x.doze(0);
        due("tried once", x.row(0, 0, 2), 1);
        x.forget(0);
        due("the only word", x.word(0, 0, 9), 1);
        due("not tried", x.row(0, 0, 2), 0);
    }

    private static void dozeLeavesTheSleepOfAnEmptyStation() {
        BusSilences x = new BusSilences();
        x.station(1);
        x.set(BusSilences.FEED, 0);
        x.pass(41);
        due("asleep by itself", x.of(0, 2), 1);
        x.doze(0);
        due("put to sleep", x.of(0, 2), 2);
        x.doze(0);
        due("asleep by itself still", x.of(0, 2), 1);
        x.doze(0);
        x.set(BusSilences.FEED, 9);
        x.pass(5);
        due("full", x.of(0, 1), 40);
        due("put to sleep still", x.of(0, 2), 2);
        x.doze(0);
        due("asleep by itself until a beat", x.of(0, 2), 1);
        due("does not speak yet", x.why(0), 3);
        x.pass(1);
        due("awake", x.of(0, 2), 0);
    }

    private static void changeElsewhere(BusSilences x, int kind) {
        switch (kind) {
            case 0: due("set", x.set(BusSilences.REST, 20), 3); break;
            case 1: due("set", x.set(BusSilences.FULL, 99), 40); break;
            case 2: due("set", x.set(BusSilences.LOAD, 0), 1); break;
            case 3: due("set", x.set(BusSilences.FEED, 0), 1); break;
            case 4: due("set", x.set(BusSilences.TRIES, 1), 4); break;
            case 5: due("station", x.station(1), 3); break;
            case 6: due("word behind it", x.word(0, 0, 7), 2); break;
            case 7: due("word of a listener", x.word(1, 0, 7), 1); break;
            case 8: due("forget", x.forget(2), 9); break;
            case 9: due("stick", x.stick(3), 1); break;
            case 10: due("doze", x.doze(2), 1); break;
            case 11: due("save", x.save(0), 3); due("restore", x.restore(0), 3); break;
            case 12: due("pass", x.pass(1), 0); due("undo", x.undo(), 5); break;
            default: Scenes.write(x, "!d;sa;w0a=7"); due("carryOut", x.carryOut(), 3);
        }
    }

    /** What is changed elsewhere leaves the word that is spoken, and those who listen to it, as they are. */
    private static void otherChangesLetAWordGoOn() {
        for (int kind = 0; kind <= 13; kind++) {
            BusSilences x = Scenes.withStations(1, 1, 0b110);
            x.stick(1);
            x.word(2, 1, 9);
            x.word(0, 0, 0b10101010);
            x.pass(8);
            changeElsewhere(x, kind);
            due("the beat that comes next, kind " + kind, x.of(0, 4), 5);
            due("those who listen, kind " + kind, x.of(0, 5), 0b011);
            due("not heard yet", x.pass(5), 0);
            due("heard, kind " + kind, x.pass(1), 1);
            due("as it was spoken", x.heard(1, 0, 0), 0b10101010);
            due("did not give up", x.of(0, 9), 0);
        }
    }

    private static void passRefuses() {
        BusSilences x = new BusSilences();
        int[] bad = {0, -1, 1000, Integer.MAX_VALUE, Integer.MIN_VALUE};
        for (int beats : bad) due("pass(" + beats + ")", x.pass(beats), BusSilences.BAD_VALUE);
        due("beats", x.count(0), 0);
        due("recorded", x.count(16), 0);
        due("pass(1)", x.pass(1), 0);
        due("pass(999)", x.pass(999), 0);
        due("beats", x.count(0), 1000);
        due("high for", x.ofWire(3, 0), 999);
    }

    private static void passStopsAtTheGreatestBeat() {
        BusSilences x = new BusSilences();
        for (int times = 0; times < 100; times++) x.pass(999);
        due("beats", x.count(0), 99900);
        due("one too many", x.pass(100), BusSilences.NOT_POSSIBLE);
        due("bad ahead of not possible", x.pass(1000), BusSilences.BAD_VALUE);
        due("beats", x.count(0), 99900);
        due("up to the bound", x.pass(99), 0);
        due("beats", x.count(0), 99999);
        due("one more", x.pass(1), BusSilences.NOT_POSSIBLE);
        x.station(1);
        x.word(0, 0, 0);
        due("the bound does not matter", x.why(0), 0);
        due("the bound does not matter", x.endsIn(0, 0), 11);
        due("the bound does not matter", x.quietIn(), 11);
        due("the bound does not matter", x.bestRest(11, 1), 1);
        x.set(BusSilences.FEED, 0);
        due("the bound does not matter", x.sleepsIn(0), 41);
        due("beats", x.count(0), 99999);
    }

    /** Two words end in the fourteenth beat, one in the twenty-eighth. */
    private static void passTellsTheWordsOfItsBeats() {
        int[][] words = {{13, 0}, {14, 2}, {27, 2}, {28, 3}, {999, 3}};
        for (int[] row : words) {
            BusSilences x = Scenes.withStations(0b01, 0b10);
            x.word(0, 0, 0);
            x.word(0, 0, 0);
            x.word(1, 1, 0);
            due("pass(" + row[0] + ")", x.pass(row[0]), row[1]);
            due("heard so far", x.count(5), row[1]);
            due("heard behind it", x.pass(28), 3 - row[1]);
        }
    }
}
