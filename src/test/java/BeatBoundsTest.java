/** The heading "A beat": each bound of its five steps, and what is on either side of it. */
public final class BeatBoundsTest {
    private static final Check CHECK = new Check("BeatBoundsTest");

    public static void main(String[] args) {
        aWireHasRestedForRestBeats();
        aStationAsleepDoesNotBegin();
        oneThatSpeaksDoesNotBeginAgain();
        onlyThoseAwakeThenListen();
        whoWokeOneBeatAheadListens();
        onlyItsWordsWireIsPulled();
        eachOneIsSilencedByALowWire();
        zerosGoOnOnALowWire();
        aWordIsHeardIfAllAreAwake();
        asleepAheadOfTheLastBeat();
        awakeAheadOfTheLastBeat();
        theSpeakerDoesNotHear();
        triesOrMoreLosesTheWord();
        aChangeOfTriesCountsAtTheNextTry();
        fedForEachHighWire();
        aPulledWireFeedsNobody();
        fedAndUsedTogether();
        atMostFull();
        belowZeroIsAsleep();
        asleepItUsesNone();
        fallingAsleepGivesUp();
        fallingAsleepInSilenceIsNoTry();
        awakeAtHalfOfFull();
        putToSleepItDoesNotWake();
        highForOneMoreOr0();
        beatsAreCounted();
        CHECK.end();
    }

    private static void due(String call, long got, long want) {
        CHECK.due(call, got, want);
    }

    /** "if the wire of it has been high for REST beats or more" */
    private static void aWireHasRestedForRestBeats() {
        for (int rest = 1; rest <= 20; rest++) {
            for (int high = rest - 1; high <= rest + 1; high++) {
                BusSilences x = Scenes.withStations(1);
                if (high > 0) x.pass(high);
                x.set(BusSilences.REST, rest);
                x.word(0, 0, 0);
                due("why, REST " + rest + ", high for " + high, x.why(0), high < rest ? 6 : 0);
                x.pass(1);
                due("begins, REST " + rest + ", high for " + high, x.of(0, 4), high < rest ? BusSilences.NONE : 1);
            }
        }
    }

    /** "Each station that is awake, does not speak, and has a word" */
    private static void aStationAsleepDoesNotBegin() {
        BusSilences x = Scenes.withStations(1, 1, 1);
        x.set(BusSilences.FULL, 99);
        x.station(1);
        x.set(BusSilences.FEED, 0);
        x.set(BusSilences.LOAD, 9);
        x.pass(5);
        due("three are asleep", x.count(3), 0b1000);
        x.word(0, 0, 0);
        x.word(3, 0, 0);
        x.pass(1);
        due("the one awake begins", x.count(2), 0b1000);
        x.doze(3);
        x.pass(20);
        due("nobody begins", x.count(2), 0);
        due("one gave up", x.count(7), 1);
        due("its word waits", x.of(3, 3), 1);
        due("none was heard", x.count(5), 0);
    }

    /** "does not speak": the wire is high all along the word, and for longer than REST. */
    private static void oneThatSpeaksDoesNotBeginAgain() {
        BusSilences x = Scenes.withStations(1, 1, 1, 1, 1, 1, 1, 0b10);
        x.set(BusSilences.REST, 1);
        x.word(7, 1, 255);
        x.word(7, 1, 255);
        x.pass(1);
        for (int beat = 1; beat <= 10; beat++) {
            due("not heard yet", x.pass(1), 0);
            due("the wire is high", x.ofWire(1, 0), beat + 1);
            due("the beat that comes next", x.of(7, 4), beat);
        }
        due("heard", x.pass(1), 1);
        due("silent", x.of(7, 4), BusSilences.NONE);
        x.pass(1);
        due("the next word", x.of(7, 4), 1);
    }

    /** "Those at the wire who are awake then (itself too) listen to it." */
    private static void onlyThoseAwakeThenListen() {
        BusSilences x = Scenes.withStations(0b01, 0b11, 0b10, 0b01, 0b111111);
        x.doze(3);
        x.word(0, 0, 0);
        x.pass(3);
        due("nobody yet", x.of(0, 5), 0);
        x.pass(1);
        due("awake and at the wire", x.of(0, 5), 0b10011);
        due("one that listens does not speak", x.of(1, 5), 0);
        x.doze(1);
        x.doze(3);
        x.station(1);
        x.pass(1);
        due("the same all along", x.of(0, 5), 0b10011);
    }

    /** One that wakes in the beat ahead of a word listens to it, one that wakes in its first beat does not. */
    private static void whoWokeOneBeatAheadListens() {
        for (int fedFrom = 17; fedFrom <= 18; fedFrom++) {
            BusSilences x = weakListener(5);
            x.set(BusSilences.REST, 20);
            x.word(1, 0, 0);
            x.pass(fedFrom);
            due("asleep", x.of(0, 2), 1);
            x.set(BusSilences.FEED, 9);
            // Both its wires are high: 54 in three beats, and 49 are half of FULL.
            x.pass(21 - fedFrom);
            due("speaks its first beat", x.of(1, 4), 1);
            due("listeners, fed from " + fedFrom, x.of(1, 5), fedFrom == 17 ? 0b11 : 0b10);
        }
    }

    /** Station 0 at the wires 0 and 1 has a charge of its own, station 1 at wire 0 is full; nothing is fed, 1 is used. */
    private static BusSilences weakListener(int charge) {
        BusSilences x = new BusSilences();
        x.set(BusSilences.FULL, charge);
        x.station(0b11);
        x.set(BusSilences.FULL, 99);
        x.station(0b01);
        x.set(BusSilences.FEED, 0);
        return x;
    }

    /** "a station that speaks on it has the bit 0": not its other wires, and each of the wires on which one speaks */
    private static void onlyItsWordsWireIsPulled() {
        BusSilences x = Scenes.withStations(0b000011, 0b001100, 0b110000);
        x.word(0, 1, 255);
        x.word(1, 2, 255);
        x.word(2, 5, 255);
        x.pass(3);
        x.stick(4);
        x.pass(1);
        int[] highFor = {4, 0, 0, 4, 0, 0};
        for (int wire = 0; wire < 6; wire++) due("high for, wire " + wire, x.ofWire(wire, 0), highFor[wire]);
    }

    /** "if its bit is 1 and its wire is low, it gives up", in the last beat too */
    private static void eachOneIsSilencedByALowWire() {
        for (int beat = 0; beat <= 10; beat++) {
            BusSilences x = Scenes.withStations(1, 1, 1, 1, 1, 1, 1, 0b100001);
            x.word(7, 5, 255);
            x.pass(3);
            if (beat > 0) x.pass(beat);
            due("goes on", x.of(7, 9), 0);
            x.stick(5);
            due("nothing is heard", x.pass(1), 0);
            due("gave up in beat " + beat, x.of(7, 9), 1);
            due("does not speak", x.of(7, 4), BusSilences.NONE);
            due("nobody listens", x.of(7, 5), 0);
            due("tried once", x.row(7, 0, 2), 1);
        }
    }

    private static void zerosGoOnOnALowWire() {
        for (int beat = 0; beat <= 10; beat++) {
            BusSilences x = Scenes.withStations(32, 32);
            x.word(0, 5, 0);
            x.pass(3);
            if (beat > 0) x.pass(beat);
            x.stick(5);
            due("heard, with a fault from beat " + beat, x.pass(11 - beat), 1);
            due("by the other", x.of(1, 8), 1);
        }
    }

    /** "if all who listen to it are awake now (whatever was in between), they have heard the word [...] if not, nobody" */
    private static void aWordIsHeardIfAllAreAwake() {
        for (int sleeper = 1; sleeper < 8; sleeper++) {
            BusSilences x = Scenes.withStations(1, 1, 1, 1, 1, 1, 1, 1);
            x.word(0, 0, 254);
            x.pass(4);
            x.doze(sleeper);
            x.pass(9);
            BusSilences y = Scenes.withStations(1, 1, 1, 1, 1, 1, 1, 1);
            y.word(0, 0, 254);
            y.pass(13);
            y.doze(sleeper);
            x.doze(sleeper);
            due("all are awake again", x.pass(1), 1);
            due("one of them is asleep", y.pass(1), 0);
            for (int name = 1; name < 8; name++) {
                due("heard by " + name, x.of(name, 8), 1);
                due("known to " + name, x.heard(name, 0, 0), 254);
                due("not heard by " + name, y.of(name, 8), 0);
                due("not known to " + name, y.heard(name, 0, 0), BusSilences.NO_SUCH);
            }
            due("leaves the row", x.of(0, 3), 0);
            due("stays in the row", y.of(0, 3), 1);
            due("did not give up", x.of(0, 9), 0);
            due("gave up", y.of(0, 9), 1);
        }
    }

    /** A listener that falls asleep in the last beat itself was awake in it; one that does in the beat ahead was not. */
    private static void asleepAheadOfTheLastBeat() {
        for (int charge = 12; charge <= 14; charge++) {
            BusSilences x = weakListener(charge);
            x.word(1, 0, 0);
            x.pass(13);
            due("how it is ahead of the last beat", x.of(0, 2), charge == 12 ? 1 : 0);
            due("listens", x.of(1, 5), 0b11);
            due("heard, charge " + charge, x.pass(1), charge == 12 ? 0 : 1);
            due("by it", x.of(0, 8), charge == 12 ? 0 : 1);
            due("how it is behind it", x.of(0, 2), charge == 14 ? 0 : 1);
            due("gave up", x.of(1, 9), charge == 12 ? 1 : 0);
        }
    }

    /** A listener that fell asleep and woke in the beat ahead of the last one hears; waking in the last one is too late. */
    private static void awakeAheadOfTheLastBeat() {
        for (int fedFrom = 7; fedFrom <= 8; fedFrom++) {
            BusSilences x = weakListener(5);
            x.word(1, 0, 0);
            x.pass(fedFrom);
            due("asleep in between", x.of(0, 2), 1);
            due("listens all the same", x.of(1, 5), 0b11);
            x.set(BusSilences.FEED, 9);
            // Only wire 1 is high: 54 in six beats.
            x.pass(13 - fedFrom);
            due("how it is ahead of the last beat", x.of(0, 2), fedFrom == 7 ? 0 : 1);
            due("heard, fed from " + fedFrom, x.pass(1), fedFrom == 7 ? 1 : 0);
            due("by it", x.of(0, 8), fedFrom == 7 ? 1 : 0);
            due("awake behind it", x.of(0, 2), 0);
        }
    }

    /** "the speaker does not count as one who heard" */
    private static void theSpeakerDoesNotHear() {
        for (int speaker = 0; speaker < 8; speaker++) {
            BusSilences x = Scenes.withStations(1, 1, 1, 1, 1, 1, 1, 1);
            x.word(speaker, 0, 9);
            due("heard", x.pass(14), 1);
            for (int name = 0; name < 8; name++) {
                due("heard by " + name + ", spoken by " + speaker, x.of(name, 8), name == speaker ? 0 : 1);
                due("known to " + name, x.heard(name, 0, 1), name == speaker ? BusSilences.NO_SUCH : speaker);
                due("heard of " + name, x.of(name, 6), name == speaker ? 1 : 0);
            }
        }
    }

    /** "the word was tried once more; if that is TRIES or more, it leaves the row (it is lost)" */
    private static void triesOrMoreLosesTheWord() {
        for (int tries = 1; tries <= 9; tries++) {
            BusSilences x = Scenes.withStations(0b10);
            x.set(BusSilences.REST, 1);
            x.set(BusSilences.TRIES, tries);
            x.word(0, 1, 5);
            x.word(0, 1, 6);
            for (int tried = 0; tried < tries; tried++) {
                due("first still", x.row(0, 0, 0), 5);
                due("tried so often", x.row(0, 0, 2), tried);
                due("none lost", x.count(6), 0);
                Scenes.giveUpOnce(x, 0);
                due("gave up so often", x.of(0, 9), tried + 1);
            }
            due("lost with TRIES " + tries, x.count(6), 1);
            due("of it", x.of(0, 7), 1);
            due("on its wire", x.ofWire(1, 6), 1);
            due("the next one is first", x.row(0, 0, 0), 6);
            due("and was never tried", x.row(0, 0, 2), 0);
            due("one waits", x.ofWire(1, 4), 1);
        }
    }

    private static void aChangeOfTriesCountsAtTheNextTry() {
        BusSilences x = Scenes.withStations(1);
        x.word(0, 0, 5);
        for (int tried = 0; tried < 3; tried++) Scenes.giveUpOnce(x, 0);
        x.set(BusSilences.TRIES, 2);
        due("tried more often than TRIES, but it waits", x.row(0, 0, 2), 3);
        Scenes.giveUpOnce(x, 0);
        due("more than TRIES: lost", x.count(6), 1);
        x.word(0, 0, 6);
        Scenes.giveUpOnce(x, 0);
        x.set(BusSilences.TRIES, 3);
        Scenes.giveUpOnce(x, 0);
        due("less than the new TRIES: it waits", x.row(0, 0, 2), 2);
        Scenes.giveUpOnce(x, 0);
        due("lost", x.count(6), 2);
    }

    /** "Each station gets FEED for each of its wires that is high in this beat" */
    private static void fedForEachHighWire() {
        for (int low = 0; low <= 6; low++) {
            BusSilences x = new BusSilences();
            x.set(BusSilences.FULL, 10);
            x.station(63);
            x.station(0b100001);
            x.set(BusSilences.FULL, 99);
            x.set(BusSilences.LOAD, 0);
            x.set(BusSilences.FEED, 2);
            for (int wire = 0; wire < low; wire++) x.stick(wire);
            x.pass(1);
            due("at all wires, low ones " + low, x.of(0, 1), 10 + 2 * (6 - low));
            due("at 0 and 5, low ones " + low, x.of(1, 1), 10 + (low == 0 ? 4 : low < 6 ? 2 : 0));
        }
    }

    /** A wire that is pulled low is no more high than one with a fault, for all who are at it. */
    private static void aPulledWireFeedsNobody() {
        BusSilences x = new BusSilences();
        x.set(BusSilences.FULL, 10);
        for (int wires : new int[] {0b001, 0b011, 0b111, 0b100}) x.station(wires);
        x.set(BusSilences.FULL, 99);
        x.set(BusSilences.LOAD, 0);
        x.pass(3);
        x.word(0, 0, 255);
        x.set(BusSilences.FEED, 9);
        x.pass(1);
        int[] charges = {13, 25, 37, 22};
        for (int station = 0; station < 4; station++) due("charge of " + station, x.of(station, 1), charges[station]);
    }

    /** "and uses LOAD if it is awake, both together; then its charge is at most FULL" */
    private static void fedAndUsedTogether() {
        BusSilences x = Scenes.withStations(1);
        x.pass(1);
        due("full, fed 1 and used 1", x.of(0, 1), 40);
        x.set(BusSilences.FEED, 0);
        x.set(BusSilences.LOAD, 4);
        x.pass(10);
        due("nothing left", x.of(0, 1), 0);
        x.set(BusSilences.FEED, 9);
        x.set(BusSilences.LOAD, 9);
        x.pass(1);
        due("empty, fed 9 and used 9", x.of(0, 1), 0);
        due("awake", x.of(0, 2), 0);
    }

    private static void atMostFull() {
        for (int missing = 1; missing <= 4; missing++) {
            BusSilences x = new BusSilences();
            x.set(BusSilences.FULL, 40 - missing);
            x.station(1);
            x.set(BusSilences.FULL, 40);
            x.set(BusSilences.FEED, 3);
            x.pass(1);
            due("fed 3 and used 1, missing " + missing, x.of(0, 1), Math.min(40, 42 - missing));
        }
    }

    /** "If it would be below 0, it is 0, and the station falls asleep by itself" */
    private static void belowZeroIsAsleep() {
        for (int charge = 2; charge <= 10; charge++) {
            for (int load = charge - 1; load <= Math.min(9, charge + 1); load++) {
                BusSilences x = new BusSilences();
                x.set(BusSilences.FULL, charge);
                x.station(1);
                x.set(BusSilences.FEED, 0);
                x.set(BusSilences.LOAD, load);
                x.pass(1);
                String which = charge + " less " + load;
                due("charge, " + which, x.of(0, 1), Math.max(0, charge - load));
                due("how it is, " + which, x.of(0, 2), load > charge ? 1 : 0);
                due("awake ones, " + which, x.count(3), load > charge ? 0 : 1);
            }
        }
    }

    private static void asleepItUsesNone() {
        BusSilences x = weakListener(3);
        x.pass(4);
        due("asleep by itself", x.of(0, 2), 1);
        x.doze(1);
        due("the other's charge", x.of(1, 1), 95);
        x.set(BusSilences.FEED, 2);
        x.pass(1);
        due("fed by two wires", x.of(0, 1), 4);
        due("put to sleep, fed by one", x.of(1, 1), 97);
        x.pass(5);
        due("fed by two wires", x.of(0, 1), 24);
        due("full", x.of(1, 1), 99);
    }

    /** "if it speaks, it gives up" */
    private static void fallingAsleepGivesUp() {
        for (int tries = 1; tries <= 2; tries++) {
            for (int charge = 12; charge <= 13; charge++) {
                BusSilences x = new BusSilences();
                x.set(BusSilences.TRIES, tries);
                x.set(BusSilences.FULL, charge);
                x.station(1);
                x.set(BusSilences.FEED, 0);
                x.word(0, 0, 3);
                x.pass(12);
                due("speaks", x.of(0, 4), 9);
                x.pass(1);
                due("asleep with the charge " + charge, x.of(0, 2), charge == 12 ? 1 : 0);
                due("speaks", x.of(0, 4), charge == 12 ? BusSilences.NONE : 10);
                due("gave up", x.of(0, 9), charge == 12 ? 1 : 0);
                due("lost with TRIES " + tries, x.of(0, 7), charge == 12 && tries == 1 ? 1 : 0);
                due("heard, asleep right behind it", x.pass(1), charge == 12 ? 0 : 1);
                due("asleep", x.of(0, 2), 1);
                due("gave up", x.of(0, 9), charge == 12 ? 1 : 0);
            }
        }
    }

    /** "if it speaks, it gives up": one that only waits does not. */
    private static void fallingAsleepInSilenceIsNoTry() {
        BusSilences x = Scenes.withStations(1);
        x.set(BusSilences.TRIES, 1);
        x.set(BusSilences.FULL, 2);
        x.set(BusSilences.LOAD, 9);
        x.stick(0);
        x.word(0, 0, 3);
        x.pass(1);
        due("asleep", x.of(0, 2), 1);
        due("did not give up", x.of(0, 9), 0);
        due("its word waits", x.of(0, 3), 1);
        due("and was never tried", x.row(0, 0, 2), 0);
    }

    /** "One asleep by itself whose charge is FULL / 2 or more [...] is awake again.", "Divisions are rounded down." */
    private static void awakeAtHalfOfFull() {
        for (int full = 2; full <= 99; full++) {
            BusSilences x = asleep(full);
            x.set(BusSilences.FEED, 1);
            int half = full / 2;
            if (half > 1) x.pass(half - 1);
            due("charge below the half of " + full, x.of(0, 1), half - 1);
            due("asleep", x.of(0, 2), 1);
            x.pass(1);
            due("the half of " + full, x.of(0, 1), half);
            due("awake", x.of(0, 2), 0);
        }
    }

    /** Station 0 is asleep by itself and empty, with this FULL; nothing is fed. */
    private static BusSilences asleep(int full) {
        BusSilences x = new BusSilences();
        x.set(BusSilences.FULL, full);
        x.station(1);
        x.set(BusSilences.FEED, 0);
        x.pass(full + 1);
        due("asleep by itself", x.of(0, 2), 1);
        due("empty", x.of(0, 1), 0);
        return x;
    }

    /** "and that is not put to sleep" */
    private static void putToSleepItDoesNotWake() {
        BusSilences x = asleep(6);
        x.set(BusSilences.FEED, 1);
        x.doze(0);
        x.pass(9);
        due("full", x.of(0, 1), 6);
        x.doze(0);
        due("asleep by itself still", x.of(0, 2), 1);
        x.set(BusSilences.FEED, 0);
        x.pass(1);
        due("awake behind the next beat", x.of(0, 2), 0);
        due("it has used nothing yet", x.of(0, 1), 6);
        x.pass(1);
        due("now it has", x.of(0, 1), 5);
    }

    /** "A wire that was high in this beat has been high for one beat more, others for 0." */
    private static void highForOneMoreOr0() {
        BusSilences x = Scenes.withStations(0b010);
        x.stick(2);
        x.word(0, 1, 255);
        for (int beat = 1; beat <= 14; beat++) {
            x.pass(1);
            due("nobody at it", x.ofWire(0, 0), beat);
            due("spoken on", x.ofWire(1, 0), beat <= 3 ? beat : Math.max(0, beat - 6));
            due("with a fault", x.ofWire(2, 0), 0);
        }
    }

    /** "The beat is counted (0 at first)." */
    private static void beatsAreCounted() {
        BusSilences x = new BusSilences();
        int sum = 0;
        due("0 at first", x.count(0), 0);
        for (int beats : new int[] {1, 2, 998, 999}) {
            x.pass(beats);
            sum += beats;
            due("beats", x.count(0), sum);
        }
    }
}
