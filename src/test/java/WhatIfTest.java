/** Promises 14 to 19: what if. */
public final class WhatIfTest {
    private static final Check CHECK = new Check("WhatIfTest");

    public static void main(String[] args) {
        whyNamesTheFirstReason();
        whyKnowsTheWireAndItsFault();
        endsInTellsWhenItIsHeard();
        endsInTellsWhenItIsLost();
        endsInTellsOfTheFirstWordAlone();
        endsInRefusesInOrder();
        quietInTellsWhenNoWordWaits();
        bestRestTakesTheGreatestOfSeveral();
        bestRestStartsFromNow();
        bestRestRefuses();
        busiestTakesTheLowestOfSeveral();
        sleepsInTellsWhenTheChargeIsGone();
        nothingChanges();
        whatIsKeptDoesNotChange();
        CHECK.end();
    }

    private static void due(String call, long got, long want) {
        CHECK.due(call, got, want);
    }

    private static void whyNamesTheFirstReason() {
        BusSilences x = new BusSilences();
        due("no such", x.why(0), BusSilences.NO_SUCH);
        x.station(1);
        due("no such -1", x.why(-1), BusSilences.NO_SUCH);
        due("no such 1", x.why(1), BusSilences.NO_SUCH);
        due("no word", x.why(0), 4);
        x.set(BusSilences.FULL, 2);
        x.set(BusSilences.FEED, 0);
        x.pass(3);
        due("asleep by itself", x.why(0), 3);
        x.doze(0);
        due("put to sleep", x.why(0), 2);
        x.word(0, 0, 0);
        due("put to sleep with a word", x.why(0), 2);
        x.doze(0);
        due("asleep with a word", x.why(0), 3);
        x.set(BusSilences.FEED, 9);
        x.pass(1);
        due("it would", x.why(0), 0);
        x.pass(1);
        due("it speaks", x.why(0), 1);
        x.doze(0);
        due("put to sleep", x.why(0), 2);
    }

    private static void whyKnowsTheWireAndItsFault() {
        BusSilences x = new BusSilences();
        x.station(0b11);
        x.word(0, 1, 0);
        due("has not rested", x.why(0), 6);
        x.stick(0);
        due("a fault elsewhere", x.why(0), 6);
        x.stick(1);
        due("a fault", x.why(0), 5);
        x.stick(1);
        x.pass(2);
        due("2 of 3", x.why(0), 6);
        x.set(BusSilences.REST, 2);
        due("2 of 2", x.why(0), 0);
        x.stick(1);
        due("a fault, but rested", x.why(0), 0);
        x.set(BusSilences.REST, 3);
        due("a fault", x.why(0), 5);
    }

    private static void endsInTellsWhenItIsHeard() {
        BusSilences x = new BusSilences();
        x.station(1);
        x.word(0, 0, 9);
        due("3 and 11", x.endsIn(0, 0), 14);
        due("heard", x.endsIn(0, 1), 1);
        x.pass(2);
        due("1 and 11", x.endsIn(0, 0), 12);
        x.pass(11);
        due("the last beat", x.endsIn(0, 0), 1);
        x.pass(1);
        due("no word", x.endsIn(0, 0), BusSilences.NOT_POSSIBLE);
        due("no word", x.endsIn(0, 1), BusSilences.NOT_POSSIBLE);
    }

    private static void endsInTellsWhenItIsLost() {
        BusSilences x = new BusSilences();
        x.station(1);
        x.station(1);
        x.set(BusSilences.TRIES, 1);
        x.word(0, 0, 0);
        x.word(1, 0, 0);
        due("at its name's last bit", x.endsIn(1, 0), 6);
        due("lost", x.endsIn(1, 1), 2);
        x.set(BusSilences.TRIES, 2);
        due("behind the other's", x.endsIn(1, 0), 28);
        due("heard", x.endsIn(1, 1), 1);
        x.stick(0);
        due("never", x.endsIn(1, 0), BusSilences.NONE);
        due("never", x.endsIn(1, 1), BusSilences.NONE);
    }

    private static void endsInTellsOfTheFirstWordAlone() {
        BusSilences x = new BusSilences();
        x.station(0b11);
        x.word(0, 0, 0);
        x.word(0, 1, 0);
        x.pass(14);
        due("the next word, its wire has rested", x.endsIn(0, 0), 11);
        x.word(0, 0, 1);
        due("one behind it changes nothing", x.endsIn(0, 0), 11);
        due("quiet behind both", x.quietIn(), 22);
    }

    private static void endsInRefusesInOrder() {
        BusSilences x = new BusSilences();
        due("no such, bad what", x.endsIn(0, 2), BusSilences.NO_SUCH);
        x.station(1);
        due("bad what, no word", x.endsIn(0, 2), BusSilences.BAD_VALUE);
        due("bad what, no word", x.endsIn(0, -1), BusSilences.BAD_VALUE);
        due("no word", x.endsIn(0, 0), BusSilences.NOT_POSSIBLE);
        due("no such", x.endsIn(-1, 0), BusSilences.NO_SUCH);
        due("no such", x.endsIn(1, 0), BusSilences.NO_SUCH);
    }

    private static void quietInTellsWhenNoWordWaits() {
        BusSilences x = new BusSilences();
        due("quiet now", x.quietIn(), 0);
        x.station(1);
        due("quiet now", x.quietIn(), 0);
        x.word(0, 0, 0);
        due("one word", x.quietIn(), 14);
        x.word(0, 0, 1);
        due("two words", x.quietIn(), 28);
        x.pass(28);
        due("quiet again", x.quietIn(), 0);
        x.word(0, 0, 0);
        x.doze(0);
        due("never", x.quietIn(), BusSilences.NONE);
        x.doze(0);
        x.set(BusSilences.TRIES, 1);
        x.station(1);
        x.word(1, 0, 0);
        // The last bit was a 1, so two beats of rest; the other's word is lost meanwhile.
        due("lost ones wait no more", x.quietIn(), 13);
    }

    private static void bestRestTakesTheGreatestOfSeveral() {
        BusSilences x = new BusSilences();
        due("no word", x.bestRest(200, 0), 20);
        due("no word", x.bestRest(200, 1), 0);
        due("one beat", x.bestRest(1, 0), 20);
        due("one beat", x.bestRest(1, 1), 0);
        x.station(1);
        x.word(0, 0, 255);
        x.word(0, 0, 255);
        // The wire stays high for the last eight beats of each word.
        int[][] want = {{11, 20, 0}, {12, 1, 1}, {14, 3, 1}, {23, 1, 2}, {30, 8, 2}, {32, 9, 2}, {34, 10, 2}, {200, 20, 2}};
        for (int[] row : want) {
            due("bestRest(" + row[0] + ", 0)", x.bestRest(row[0], 0), row[1]);
            due("bestRest(" + row[0] + ", 1)", x.bestRest(row[0], 1), row[2]);
        }
        due("REST stays", x.count(10), 3);
    }

    private static void bestRestStartsFromNow() {
        BusSilences x = new BusSilences();
        x.station(1);
        x.pass(7);
        x.word(0, 0, 0);
        due("rested for seven", x.bestRest(11, 0), 7);
        due("one word", x.bestRest(11, 1), 1);
        x.pass(1);
        due("in the middle of it", x.bestRest(10, 0), 20);
        due("one word", x.bestRest(10, 1), 1);
        due("not in nine", x.bestRest(9, 1), 0);
    }

    private static void bestRestRefuses() {
        BusSilences x = new BusSilences();
        int[] bad = {0, -1, 201, Integer.MAX_VALUE, Integer.MIN_VALUE};
        for (int beats : bad) due("bestRest(" + beats + ", 0)", x.bestRest(beats, 0), BusSilences.BAD_VALUE);
        for (int what : new int[] {-1, 2, Integer.MAX_VALUE}) due("what " + what, x.bestRest(1, what), BusSilences.BAD_VALUE);
    }

    private static void busiestTakesTheLowestOfSeveral() {
        BusSilences x = new BusSilences();
        due("no word", x.busiest(), BusSilences.NONE);
        x.station(63);
        x.station(63);
        due("no word", x.busiest(), BusSilences.NONE);
        x.word(0, 5, 0);
        due("the only one", x.busiest(), 5);
        x.word(0, 3, 0);
        due("the lower one", x.busiest(), 3);
        x.word(1, 5, 0);
        due("the one with more", x.busiest(), 5);
        x.word(1, 3, 0);
        x.word(1, 0, 0);
        due("the lower one", x.busiest(), 3);
        x.pass(4);
        due("one that is spoken waits", x.busiest(), 3);
        x.word(1, 0, 0);
        due("the lowest of three", x.busiest(), 0);
    }

    private static void sleepsInTellsWhenTheChargeIsGone() {
        BusSilences x = new BusSilences();
        due("no such", x.sleepsIn(0), BusSilences.NO_SUCH);
        x.station(1);
        due("no such", x.sleepsIn(1), BusSilences.NO_SUCH);
        due("no such", x.sleepsIn(-1), BusSilences.NO_SUCH);
        due("never", x.sleepsIn(0), BusSilences.NONE);
        x.set(BusSilences.FEED, 0);
        due("below 0", x.sleepsIn(0), 41);
        x.doze(0);
        due("put to sleep it uses none", x.sleepsIn(0), BusSilences.NONE);
        x.doze(0);
        x.pass(40);
        due("the next beat", x.sleepsIn(0), 1);
        x.pass(1);
        due("asleep", x.sleepsIn(0), 0);
        x.doze(0);
        due("asleep and put to sleep", x.sleepsIn(0), 0);
    }

    private static void askAll(BusSilences x) {
        for (int station = 0; station < 8; station++) {
            x.why(station);
            x.endsIn(station, 0);
            x.sleepsIn(station);
        }
        x.quietIn();
        x.bestRest(200, 0);
        x.busiest();
    }

    private static void nothingChanges() {
        BusSilences x = inTurn();
        askAll(x);
        due("nothing changes", Snapshot.of(x).equals(Snapshot.of(inTurn())) ? 1 : 0, 1);
        due("nothing recorded", x.count(16), 5);
    }

    /** The states of the history, those in the slots, and the pad's text show only when they are gone back to, or carried out. */
    private static void whatIsKeptDoesNotChange() {
        for (int way = 0; way <= 7; way++) {
            BusSilences asked = kept();
            BusSilences left = kept();
            askAll(asked);
            due("what is kept, way " + way, bringBack(asked, way), bringBack(left, way));
            due("as it was, way " + way, Snapshot.of(asked).equals(Snapshot.of(left)) ? 1 : 0, 1);
        }
    }

    private static int bringBack(BusSilences x, int way) {
        if (way <= 1) return x.restore(way);
        if (way == 2) return x.carryOut();
        for (int time = 3; time < way; time++) x.undo();
        return x.undo();
    }

    private static BusSilences kept() {
        BusSilences x = inTurn();
        x.save(1);
        x.pass(40);
        x.save(0);
        x.stick(1);
        Scenes.write(x, "z3;b25");
        return x;
    }

    /** Eight stations that speak in turn, one change of theirs undone. */
    private static BusSilences inTurn() {
        BusSilences x = Scenes.throng();
        x.pass(30);
        x.pass(3);
        x.undo();
        return x;
    }
}
