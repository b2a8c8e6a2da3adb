/** The five steps of a beat (promise 8), reckoned by hand. */
public final class BeatTest {
    private static final Check CHECK = new Check("BeatTest");

    public static void main(String[] args) {
        aWordTakesElevenBeats();
        bitsAreSpokenTheHighestFirst();
        theLowerNameGoesOn();
        theLowestOfThreeGoesOn();
        oneThatBeginsWithinAWordSilencesIt();
        restIsOfTheWireOfTheFirstWord();
        aFaultSilencesAOne();
        aFaultHearsZeros();
        whoSleepsInBetweenHears();
        whoSleepsAtTheEndLetsNobodyHear();
        whoWakesOrComesWithinAWordDoesNotListen();
        aWordWithoutOtherListenersIsHeard();
        twoWordsThatEndTogetherAreHeardInOrder();
        aWordIsLostAtItsLastTry();
        chargeIsFedForEachHighWire();
        feedAndLoadCountTogether();
        chargeZeroIsAwakeAndBelowIsAsleep();
        asleepOnesWakeAtHalfOfFull();
        asleepOnesSpeakInTheNextBeat();
        fallingAsleepGivesUp();
        aWordIsHeardAheadOfTheSleep();
        CHECK.end();
    }

    private static void due(String call, long got, long want) {
        CHECK.due(call, got, want);
    }

    private static void aWordTakesElevenBeats() {
        BusSilences x = Scenes.withStations(1, 1, 2);
        x.word(0, 0, 255);
        due("rest", x.pass(3), 0);
        due("not begun", x.of(0, 4), BusSilences.NONE);
        due("high for", x.ofWire(0, 0), 3);
        due("begin", x.pass(1), 0);
        due("beat that comes next", x.of(0, 4), 1);
        due("listeners", x.of(0, 5), 0b11);
        due("speakers on the wire", x.ofWire(0, 3), 1);
        due("pulled low", x.ofWire(0, 0), 0);
        x.pass(2);
        due("the name is over", x.of(0, 4), 3);
        due("pulled low", x.ofWire(0, 0), 0);
        x.pass(7);
        due("the last beat is next", x.of(0, 4), 10);
        due("let go for seven", x.ofWire(0, 0), 7);
        due("nothing heard yet", x.count(5), 0);
        due("the last beat", x.pass(1), 1);
        due("silent", x.of(0, 4), BusSilences.NONE);
        due("nobody listens", x.of(0, 5), 0);
        due("number", x.heard(1, 0, 0), 255);
        due("speaker", x.heard(1, 0, 1), 0);
        due("wire", x.heard(1, 0, 2), 0);
        due("beat", x.heard(1, 0, 3), 13);
        due("the speaker did not hear", x.of(0, 8), 0);
        due("one elsewhere did not hear", x.of(2, 8), 0);
        due("the listener heard", x.of(1, 8), 1);
        due("heard of the speaker", x.of(0, 6), 1);
        due("heard on the wire", x.ofWire(0, 5), 1);
        due("the row is empty", x.of(0, 3), 0);
    }

    private static void bitsAreSpokenTheHighestFirst() {
        BusSilences x = Scenes.withStations(1, 1, 1, 1, 1, 1, 32);
        x.word(6, 5, 0b10110000);
        x.pass(3);
        // The name 110, then the word; how long the wire is high by then.
        int[] highFor = {4, 5, 0, 1, 0, 1, 2, 0, 0, 0, 0};
        for (int beat = 0; beat < 11; beat++) {
            x.pass(1);
            due("beat " + beat, x.ofWire(5, 0), highFor[beat]);
        }
        due("heard", x.count(5), 1);
    }

    private static void theLowerNameGoesOn() {
        BusSilences x = Scenes.withStations(1, 1);
        x.word(0, 0, 0b01010101);
        x.word(1, 0, 0);
        x.pass(5);
        due("both speak", x.count(2), 0b11);
        x.pass(1);
        due("the lower one goes on", x.count(2), 0b01);
        due("the higher one gave up", x.of(1, 9), 1);
        due("it was tried", x.row(1, 0, 2), 1);
        due("it does not listen to itself any more", x.of(1, 5), 0);
        due("gave up", x.count(7), 1);
        x.pass(7);
        due("the last beat", x.pass(1), 1);
        due("heard by the one that gave up", x.of(1, 8), 1);
        due("number", x.heard(1, 0, 0), 0b01010101);
        // The word ends with a 1: two beats of rest more, and eleven of the other word.
        due("the other's turn", x.pass(12), 0);
        due("the other's turn", x.pass(1), 1);
        due("heard", x.heard(0, 0, 0), 0);
        due("beat", x.heard(0, 0, 3), 26);
    }

    private static void theLowestOfThreeGoesOn() {
        BusSilences x = Scenes.withStations(1, 1, 1, 1);
        x.word(1, 0, 1);
        x.word(2, 0, 2);
        x.word(3, 0, 3);
        x.pass(5);
        due("001 stays, 010 and 011 give up", x.count(2), 0b0010);
        due("gave up", x.count(7), 2);
        x.pass(9);
        due("heard", x.heard(0, 0, 0), 1);
        due("by", x.heard(0, 0, 1), 1);
        x.set(BusSilences.REST, 1);
        // 1 ends with the bit 1, so the wire has been high for one beat.
        x.pass(2);
        due("010 and 011 speak alike", x.count(2), 0b1100);
        x.pass(1);
        due("011 gives up", x.count(2), 0b0100);
    }

    private static void oneThatBeginsWithinAWordSilencesIt() {
        BusSilences x = Scenes.withStations(1, 1);
        x.word(0, 0, 255);
        x.pass(5);
        x.word(1, 0, 255);
        x.pass(4);
        due("let go for three", x.ofWire(0, 0), 3);
        due("the other waits", x.why(1), 0);
        due("speaks", x.of(0, 4), 6);
        x.pass(1);
        due("silenced", x.of(0, 4), BusSilences.NONE);
        due("gave up", x.of(0, 9), 1);
        due("the other speaks", x.of(1, 4), 1);
        due("it listens too", x.of(1, 5), 0b11);
        due("low", x.ofWire(0, 0), 0);
    }

    private static void restIsOfTheWireOfTheFirstWord() {
        BusSilences x = Scenes.withStations(0b11);
        x.stick(0);
        x.word(0, 0, 0);
        x.word(0, 1, 0);
        x.pass(30);
        due("the first word waits", x.of(0, 3), 2);
        due("it does not speak", x.of(0, 4), BusSilences.NONE);
        x.forget(0);
        due("the other wire has rested", x.pass(11), 1);
        due("on the other wire", x.ofWire(1, 5), 1);
    }

    private static void aFaultSilencesAOne() {
        BusSilences x = Scenes.withStations(1);
        x.word(0, 0, 1);
        x.pass(3);
        x.stick(0);
        x.pass(10);
        due("zeros pass", x.of(0, 4), 10);
        due("the one does not", x.pass(1), 0);
        due("gave up", x.of(0, 9), 1);
        due("silent", x.of(0, 4), BusSilences.NONE);
        due("tried", x.row(0, 0, 2), 1);
        due("never rests", x.pass(500), 0);
        due("tried once", x.row(0, 0, 2), 1);
        due("never high", x.ofWire(0, 0), 0);
    }

    private static void aFaultHearsZeros() {
        BusSilences x = Scenes.withStations(1, 1);
        x.word(0, 0, 0);
        x.pass(3);
        x.stick(0);
        due("all zeros are heard on a low wire", x.pass(11), 1);
        due("by the other", x.of(1, 8), 1);
    }

    private static void whoSleepsInBetweenHears() {
        BusSilences x = Scenes.withStations(1, 1, 1);
        x.word(0, 0, 5);
        x.pass(4);
        x.doze(2);
        x.pass(9);
        due("listens in its sleep", x.of(0, 5), 0b111);
        x.doze(2);
        due("awake at the end", x.pass(1), 1);
        due("heard", x.of(1, 8), 1);
        due("heard", x.of(2, 8), 1);
        due("one word all the same", x.count(5), 1);
    }

    private static void whoSleepsAtTheEndLetsNobodyHear() {
        BusSilences x = Scenes.withStations(1, 1, 1);
        x.word(0, 0, 4);
        x.pass(13);
        x.doze(2);
        due("nobody has heard it", x.pass(1), 0);
        due("not heard by the one awake", x.of(1, 8), 0);
        due("gave up", x.of(0, 9), 1);
        due("tried", x.row(0, 0, 2), 1);
        due("nothing is known", x.heard(1, 0, 0), BusSilences.NO_SUCH);
        due("low at its end", x.ofWire(0, 0), 0);
        // Asleep from the beginning on, it is not waited for.
        due("again", x.pass(14), 1);
        due("heard by the one awake", x.of(1, 8), 1);
        due("not by the one asleep", x.of(2, 8), 0);
    }

    private static void whoWakesOrComesWithinAWordDoesNotListen() {
        BusSilences x = Scenes.withStations(1, 1, 1);
        x.word(0, 0, 4);
        x.doze(2);
        x.pass(4);
        x.doze(2);
        x.station(1);
        due("listeners", x.of(0, 5), 0b011);
        due("heard", x.pass(10), 1);
        due("by its listener", x.of(1, 8), 1);
        due("not by the one that woke", x.of(2, 8), 0);
        due("not by the one that came", x.of(3, 8), 0);
    }

    private static void aWordWithoutOtherListenersIsHeard() {
        BusSilences x = Scenes.withStations(4);
        x.word(0, 2, 200);
        due("heard", x.pass(14), 1);
        due("of it", x.of(0, 6), 1);
        due("by it", x.of(0, 8), 0);
        due("on its wire", x.ofWire(2, 5), 1);
    }

    private static void twoWordsThatEndTogetherAreHeardInOrder() {
        BusSilences x = Scenes.withStations(1, 0b11, 2);
        x.word(2, 1, 22);
        x.word(0, 0, 11);
        due("both", x.pass(14), 2);
        due("the latest is of the higher name", x.heard(1, 0, 1), 2);
        due("its number", x.heard(1, 0, 0), 22);
        due("its wire", x.heard(1, 0, 2), 1);
        due("the one before", x.heard(1, 1, 1), 0);
        due("its number", x.heard(1, 1, 0), 11);
        due("the same beat", x.heard(1, 1, 3), x.heard(1, 0, 3));
    }

    private static void aWordIsLostAtItsLastTry() {
        BusSilences x = Scenes.withStations(1, 1);
        x.set(BusSilences.TRIES, 2);
        for (int n = 0; n < 3; n++) x.word(0, 0, 0);
        x.word(1, 0, 9);
        x.word(1, 0, 8);
        x.pass(6);
        due("tried once", x.row(1, 0, 2), 1);
        due("not lost", x.of(1, 7), 0);
        x.pass(14);
        due("lost", x.of(1, 7), 1);
        due("lost on the wire", x.ofWire(0, 6), 1);
        due("lost in all", x.count(6), 1);
        due("the next one", x.row(1, 0, 0), 8);
        due("not tried", x.row(1, 0, 2), 0);
        // A word that was tried more often than a new TRIES allows stays until it is tried again.
        x.pass(14);
        due("tried once", x.row(1, 0, 2), 1);
        x.set(BusSilences.TRIES, 1);
        due("stays", x.of(1, 3), 1);
    }

    private static void chargeIsFedForEachHighWire() {
        BusSilences x = Scenes.withStations(63, 0b100);
        x.set(BusSilences.FULL, 99);
        x.pass(1);
        due("six wires, awake", x.of(0, 1), 45);
        due("one wire, awake", x.of(1, 1), 40);
        x.stick(0);
        x.stick(1);
        x.set(BusSilences.FEED, 2);
        x.pass(1);
        due("four wires", x.of(0, 1), 52);
        due("one wire", x.of(1, 1), 41);
        x.doze(0);
        x.pass(1);
        due("asleep it uses none", x.of(0, 1), 60);
        due("charge of all", x.count(9), 102);
        x.pass(5);
        due("at most FULL", x.of(0, 1), 99);
    }

    private static void feedAndLoadCountTogether() {
        BusSilences x = Scenes.withStations(1);
        x.set(BusSilences.LOAD, 2);
        x.pass(1);
        due("40 and 1 less 2", x.of(0, 1), 39);
        x.set(BusSilences.FULL, 2);
        x.set(BusSilences.LOAD, 9);
        x.set(BusSilences.FEED, 7);
        x.pass(1);
        due("2 and 7 less 9", x.of(0, 1), 0);
        due("awake at 0", x.of(0, 2), 0);
        x.set(BusSilences.FEED, 9);
        x.pass(1);
        due("0 and 9 less 9", x.of(0, 1), 0);
        due("awake", x.of(0, 2), 0);
    }

    private static void chargeZeroIsAwakeAndBelowIsAsleep() {
        BusSilences x = Scenes.withStations(1);
        x.set(BusSilences.FEED, 0);
        x.pass(40);
        due("charge", x.of(0, 1), 0);
        due("awake", x.of(0, 2), 0);
        x.pass(1);
        due("charge", x.of(0, 1), 0);
        due("asleep", x.of(0, 2), 1);
        due("awake ones", x.count(3), 0);
        x.pass(9);
        due("stays at 0", x.of(0, 1), 0);
        x.set(BusSilences.LOAD, 0);
        due("asleep still", x.of(0, 2), 1);
    }

    private static void asleepOnesWakeAtHalfOfFull() {
        BusSilences x = Scenes.withStations(1);
        x.set(BusSilences.FULL, 5);
        x.set(BusSilences.FEED, 0);
        x.pass(6);
        due("asleep", x.of(0, 2), 1);
        x.set(BusSilences.FEED, 1);
        x.pass(1);
        due("charge 1 of 5", x.of(0, 1), 1);
        due("asleep", x.of(0, 2), 1);
        x.pass(1);
        due("charge 2 of 5", x.of(0, 1), 2);
        due("awake", x.of(0, 2), 0);
        x.pass(1);
        due("uses LOAD again", x.of(0, 1), 2);
        x.set(BusSilences.FEED, 0);
        x.pass(3);
        due("asleep again", x.of(0, 2), 1);
        x.set(BusSilences.FULL, 6);
        x.set(BusSilences.FEED, 1);
        x.pass(2);
        due("2 of 6", x.of(0, 2), 1);
        x.set(BusSilences.FULL, 4);
        due("FULL alone wakes nobody", x.of(0, 2), 1);
        x.set(BusSilences.FEED, 0);
        x.pass(1);
        due("2 of 4", x.of(0, 2), 0);
    }

    private static void asleepOnesSpeakInTheNextBeat() {
        BusSilences x = Scenes.withStations(1);
        x.set(BusSilences.FULL, 2);
        x.set(BusSilences.FEED, 0);
        x.pass(3);
        x.word(0, 0, 3);
        x.set(BusSilences.FEED, 1);
        due("asleep", x.of(0, 2), 1);
        x.pass(1);
        due("awake at the end of the beat", x.of(0, 2), 0);
        due("does not speak yet", x.of(0, 4), BusSilences.NONE);
        x.pass(1);
        due("speaks", x.of(0, 4), 1);
    }

    private static void fallingAsleepGivesUp() {
        BusSilences x = Scenes.withStations(1);
        x.set(BusSilences.FEED, 0);
        x.set(BusSilences.LOAD, 9);
        x.word(0, 0, 3);
        x.pass(4);
        due("speaks", x.of(0, 4), 1);
        due("charge", x.of(0, 1), 4);
        x.pass(1);
        due("asleep", x.of(0, 2), 1);
        due("charge", x.of(0, 1), 0);
        due("silent", x.of(0, 4), BusSilences.NONE);
        due("nobody listens", x.of(0, 5), 0);
        due("gave up", x.of(0, 9), 1);
        due("tried", x.row(0, 0, 2), 1);
    }

    private static void aWordIsHeardAheadOfTheSleep() {
        BusSilences x = Scenes.withStations(1, 2);
        x.set(BusSilences.FULL, 23);
        x.set(BusSilences.REST, 1);
        x.set(BusSilences.FEED, 0);
        x.set(BusSilences.LOAD, 2);
        x.word(0, 0, 3);
        x.pass(11);
        due("charge", x.of(0, 1), 1);
        due("heard in its last beat", x.pass(1), 1);
        due("asleep in that beat", x.of(0, 2), 1);
        due("did not give up", x.of(0, 9), 0);
    }
}
