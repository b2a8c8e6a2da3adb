/** The headings "Settings" and "Wires, stations, words": each bound, and what is on either side of it. */
public final class LimitsTest {
    private static final Check CHECK = new Check("LimitsTest");

    public static void main(String[] args) {
        settingsHaveTheirRanges();
        thereAreFiveSettings();
        restAtItsEnds();
        fullAtItsEnds();
        loadAtItsEnds();
        feedAtItsEnds();
        triesAtItsEnds();
        wiresAre0To5();
        wiresAreHighFor999AtMost();
        stationsAre0To7();
        chargeIsFullAtFirst();
        rowsHoldFourWords();
        aRowHasRoomAgain();
        wordsAre0To255();
        aWordTakesElevenBeats();
        bitsAreSpokenTheHighestFirst();
        CHECK.end();
    }

    private static void due(String call, long got, long want) {
        CHECK.due(call, got, want);
    }

    /** "(In parentheses: range; first value.)" */
    private static void settingsHaveTheirRanges() {
        int[][] ranges = {{1, 20, 3}, {2, 99, 40}, {0, 9, 1}, {0, 9, 1}, {1, 9, 4}};
        for (int setting = 0; setting < ranges.length; setting++) {
            int lowest = ranges[setting][0];
            int greatest = ranges[setting][1];
            int first = ranges[setting][2];
            BusSilences x = new BusSilences();
            String name = "setting " + setting;
            due(name + " at first", x.count(10 + setting), first);
            due(name + " below the lowest", x.set(setting, lowest - 1), BusSilences.BAD_VALUE);
            due(name + " above the greatest", x.set(setting, greatest + 1), BusSilences.BAD_VALUE);
            due(name + " as it was", x.count(10 + setting), first);
            due(name + " the lowest", x.set(setting, lowest), first);
            due(name + " above the lowest", x.set(setting, lowest + 1), lowest);
            due(name + " below the greatest", x.set(setting, greatest - 1), lowest + 1);
            due(name + " the greatest", x.set(setting, greatest), greatest - 1);
            due(name + " above the greatest", x.set(setting, greatest + 1), BusSilences.BAD_VALUE);
            due(name + " is the greatest", x.count(10 + setting), greatest);
            for (int other = 0; other < ranges.length; other++) {
                if (other != setting) due("setting " + other + " as at first", x.count(10 + other), ranges[other][2]);
            }
        }
    }

    /** "BAD_VALUE if there is no such setting" */
    private static void thereAreFiveSettings() {
        BusSilences x = new BusSilences();
        for (int value = 0; value <= 20; value++) {
            due("set(-1, " + value + ")", x.set(-1, value), BusSilences.BAD_VALUE);
            due("set(5, " + value + ")", x.set(5, value), BusSilences.BAD_VALUE);
        }
        due("set(4, 3)", x.set(4, 3), 4);
        due("set(0, 4)", x.set(0, 4), 3);
    }

    /** "REST (1 to 20): beats that a wire must have been high ahead of a word" */
    private static void restAtItsEnds() {
        for (int rest : new int[] {1, 20}) {
            BusSilences x = Scenes.withStations(1);
            x.set(BusSilences.REST, rest);
            x.word(0, 0, 0);
            x.pass(rest);
            due("waits for " + rest + " beats", x.of(0, 4), BusSilences.NONE);
            x.pass(1);
            due("speaks then", x.of(0, 4), 1);
        }
    }

    /** "FULL (2 to 99): charge of a station that is full" */
    private static void fullAtItsEnds() {
        for (int full : new int[] {2, 99}) {
            BusSilences x = new BusSilences();
            x.set(BusSilences.FULL, full);
            x.station(0b11);
            due("full at first", x.of(0, 1), full);
            x.set(BusSilences.FEED, 0);
            x.pass(1);
            due("one less", x.of(0, 1), full - 1);
            x.set(BusSilences.FEED, 1);
            x.pass(1);
            due("two more and one less, full", x.of(0, 1), full);
            x.pass(1);
            due("no more than full", x.of(0, 1), full);
        }
    }

    /** "LOAD (0 to 9): charge that a station that is awake uses in a beat" */
    private static void loadAtItsEnds() {
        BusSilences x = Scenes.withStations(1);
        x.set(BusSilences.FEED, 0);
        x.set(BusSilences.LOAD, 0);
        x.pass(999);
        due("none is used", x.of(0, 1), 40);
        x.set(BusSilences.LOAD, 9);
        for (int charge : new int[] {31, 22, 13, 4, 0}) {
            due("awake ahead of it", x.of(0, 2), 0);
            x.pass(1);
            due("nine are used", x.of(0, 1), charge);
        }
        due("asleep, as nine of four were", x.of(0, 2), 1);
    }

    /** "FEED (0 to 9): charge that a station gets in a beat for each of its wires that is high" */
    private static void feedAtItsEnds() {
        BusSilences x = new BusSilences();
        x.set(BusSilences.FULL, 2);
        x.station(0b11);
        x.set(BusSilences.LOAD, 0);
        x.set(BusSilences.FULL, 99);
        x.set(BusSilences.FEED, 0);
        x.pass(999);
        due("none is fed", x.of(0, 1), 2);
        x.set(BusSilences.FEED, 9);
        x.pass(1);
        due("nine for each of two wires", x.of(0, 1), 20);
        x.stick(1);
        x.pass(1);
        due("nine for the one that is high", x.of(0, 1), 29);
        x.stick(0);
        x.pass(1);
        due("none is high", x.of(0, 1), 29);
    }

    /** "TRIES (1 to 9): how often a word is tried" */
    private static void triesAtItsEnds() {
        for (int tries : new int[] {1, 9}) {
            BusSilences x = Scenes.withStations(1);
            x.set(BusSilences.REST, 1);
            x.set(BusSilences.TRIES, tries);
            x.word(0, 0, 0);
            for (int tried = 1; tried < tries; tried++) {
                Scenes.giveUpOnce(x, 0);
                due("tried so often", x.row(0, 0, 2), tried);
            }
            due("not lost yet", x.of(0, 7), 0);
            Scenes.giveUpOnce(x, 0);
            due("lost", x.of(0, 7), 1);
            due("out of the row", x.of(0, 3), 0);
        }
    }

    /** "There are 6 wires, 0 to 5." */
    private static void wiresAre0To5() {
        BusSilences x = new BusSilences();
        due("a set of 0 wires", x.station(0), BusSilences.BAD_VALUE);
        due("the set of wire 0", x.station(1), 0);
        due("the set of all wires", x.station(63), 1);
        due("the set of wire 6", x.station(64), BusSilences.BAD_VALUE);
        due("the set of wires 0 and 6", x.station(65), BusSilences.BAD_VALUE);
        for (int wire = 0; wire <= 5; wire++) {
            due("who is at " + wire, x.ofWire(wire, 2), wire == 0 ? 0b11 : 0b10);
            due("a fault of " + wire, x.stick(wire), 1);
            if (wire < 4) due("a word for " + wire, x.word(1, wire, 0), wire + 1);
        }
        x.forget(1);
        due("a word for 4", x.word(1, 4, 0), 4);
        x.forget(1);
        due("a word for 5", x.word(1, 5, 0), 4);
        for (int none : new int[] {-1, 6}) {
            due("ofWire(" + none + ")", x.ofWire(none, 0), BusSilences.NO_SUCH);
            due("stick(" + none + ")", x.stick(none), BusSilences.NO_SUCH);
            due("word for " + none, x.word(0, none, 0), BusSilences.NO_SUCH);
        }
        due("all have a fault", x.count(8), 63);
    }

    /** "for how many beats it has been high without a break (0 at first; 999 at most)" */
    private static void wiresAreHighFor999AtMost() {
        BusSilences x = new BusSilences();
        x.stick(1);
        due("0 at first", x.ofWire(0, 0), 0);
        x.pass(998);
        due("998", x.ofWire(0, 0), 998);
        x.pass(1);
        due("999", x.ofWire(0, 0), 999);
        x.pass(1);
        due("no more", x.ofWire(0, 0), 999);
        x.pass(999);
        due("no more", x.ofWire(5, 0), 999);
        due("never high", x.ofWire(1, 0), 0);
        x.stick(0);
        x.pass(1);
        due("a break", x.ofWire(0, 0), 0);
        due("no break elsewhere", x.ofWire(5, 0), 999);
        x.stick(0);
        x.pass(1);
        due("from 0 again", x.ofWire(0, 0), 1);
    }

    /** "There are up to 8 stations, numbered in the order in which they came" */
    private static void stationsAre0To7() {
        BusSilences x = new BusSilences();
        for (int number = 0; number < 8; number++) {
            due("not there yet", x.of(number, 0), BusSilences.NO_SUCH);
            due("the next number", x.station(number + 1), number);
            due("its wires", x.of(number, 0), number + 1);
            due("stations", x.count(1), number + 1);
        }
        due("a ninth", x.station(9), BusSilences.TOO_MANY);
        due("none of that number", x.of(8, 0), BusSilences.NO_SUCH);
        due("none of that number", x.of(-1, 0), BusSilences.NO_SUCH);
        due("stations", x.count(1), 8);
        x.undo();
        due("room again", x.station(63), 7);
        due("its wires", x.of(7, 0), 63);
    }

    /** "has charge (FULL at first), and is awake (at first)" */
    private static void chargeIsFullAtFirst() {
        BusSilences x = new BusSilences();
        int[] fulls = {2, 3, 40, 98, 99};
        for (int station = 0; station < fulls.length; station++) {
            x.set(BusSilences.FULL, fulls[station]);
            x.station(1);
            due("charge", x.of(station, 1), fulls[station]);
            due("awake", x.of(station, 2), 0);
        }
    }

    /** "a row of up to 4 words to be spoken, each [...] with how often it was tried (0 at first)" */
    private static void rowsHoldFourWords() {
        BusSilences x = Scenes.withStations(63, 63);
        for (int rank = 0; rank < 4; rank++) {
            due("not there yet", x.row(0, rank, 0), BusSilences.NO_SUCH);
            due("words then", x.word(0, rank, rank + 7), rank + 1);
            due("its number", x.row(0, rank, 0), rank + 7);
            due("its wire", x.row(0, rank, 1), rank);
            due("never tried", x.row(0, rank, 2), 0);
        }
        due("a fifth", x.word(0, 0, 0), BusSilences.TOO_MANY);
        due("no fifth", x.row(0, 4, 0), BusSilences.NO_SUCH);
        due("four", x.of(0, 3), 4);
        due("another's row is its own", x.word(1, 0, 0), 1);
    }

    private static void aRowHasRoomAgain() {
        BusSilences x = Scenes.withStations(1);
        x.set(BusSilences.TRIES, 1);
        for (int word = 0; word < 4; word++) x.word(0, 0, word);
        x.forget(0);
        due("behind a forgotten one", x.word(0, 0, 4), 4);
        x.pass(14);
        due("one was heard", x.count(5), 1);
        due("behind a heard one", x.word(0, 0, 5), 4);
        Scenes.giveUpOnce(x, 0);
        due("one was lost", x.count(6), 1);
        due("behind a lost one", x.word(0, 0, 6), 4);
        due("a fifth", x.word(0, 0, 7), BusSilences.TOO_MANY);
        for (int rank = 0; rank < 4; rank++) due("in their order", x.row(0, rank, 0), 3 + rank);
    }

    /** "A word is a number, 0 to 255." */
    private static void wordsAre0To255() {
        for (int number : new int[] {0, 1, 254, 255}) {
            BusSilences x = Scenes.withStations(1, 1);
            due("word " + number, x.word(0, 0, number), 1);
            due("word -1", x.word(0, 0, -1), BusSilences.BAD_VALUE);
            due("word 256", x.word(0, 0, 256), BusSilences.BAD_VALUE);
            due("one word", x.of(0, 3), 1);
            due("heard", x.pass(14), 1);
            due("as it was spoken", x.heard(1, 0, 0), number);
        }
    }

    /** "To speak it takes 11 beats: 3 for the name of the speaker and 8 for the word" */
    private static void aWordTakesElevenBeats() {
        for (int number : new int[] {0, 255}) {
            BusSilences x = Scenes.withStations(1, 1);
            x.word(1, 0, number);
            x.pass(3);
            for (int beat = 1; beat <= 10; beat++) {
                due("not heard yet", x.pass(1), 0);
                due("the beat that comes next", x.of(1, 4), beat);
                due("it waits", x.of(1, 3), 1);
            }
            due("the eleventh", x.pass(1), 1);
            due("does not speak", x.of(1, 4), BusSilences.NONE);
            due("out of the row", x.of(1, 3), 0);
        }
    }

    /** "as bits, of each the highest one first. In a beat with the bit 0 the speaker pulls the wire low" */
    private static void bitsAreSpokenTheHighestFirst() {
        for (int name = 0; name < 8; name++) {
            for (int number : new int[] {0, 1, 2, 4, 8, 16, 32, 64, 128, 255, 0b10110010}) {
                BusSilences x = Scenes.withStations(1, 1, 1, 1, 1, 1, 1, 1);
                x.word(name, 0, number);
                x.pass(3);
                int spoken = 0;
                for (int beat = 0; beat < 11; beat++) {
                    x.pass(1);
                    spoken = spoken * 2 + (x.ofWire(0, 0) > 0 ? 1 : 0);
                }
                due("the bits of " + number + " by " + name, spoken, name * 256 + number);
                due("heard", x.count(5), 1);
            }
        }
    }
}
