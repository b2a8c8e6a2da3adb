/** Promises 14 to 19 at their bounds: how far each looks ahead, and what it tells one beat before and behind. */
public final class AheadTest {
    private static final Check CHECK = new Check("AheadTest");

    public static void main(String[] args) {
        whyGoesByTheOrderOfItsReasons();
        endsInWithin600Heard();
        endsInWithin600Lost();
        endsInCountsFromOne();
        whatIfsKnowTheWordThatIsSpoken();
        quietInWithin900();
        quietInFromZero();
        sleepsInWithin600();
        sleepsInFromZero();
        bestRestIsTheOneThatPassTells();
        bestRestTakes1To200Beats();
        bestRestOfSeveral();
        busiestOfSeveral();
        CHECK.end();
    }

    private static void due(String call, long got, long want) {
        CHECK.due(call, got, want);
    }

    /** "the first of these that is so": every lower reason is taken away, and the next one shows. */
    private static void whyGoesByTheOrderOfItsReasons() {
        BusSilences x = new BusSilences();
        x.set(BusSilences.FULL, 2);
        x.station(0b11);
        x.set(BusSilences.FEED, 0);
        x.stick(1);
        x.pass(3);
        x.doze(0);
        due("asleep by itself, put to sleep, no word", x.why(0), 2);
        x.doze(0);
        due("asleep by itself, no word", x.why(0), 3);
        x.set(BusSilences.FEED, 2);
        x.pass(1);
        due("no word", x.why(0), 4);
        x.word(0, 1, 0);
        due("a fault", x.why(0), 5);
        x.stick(1);
        due("not rested", x.why(0), 6);
        x.pass(2);
        due("not rested by one beat", x.why(0), 6);
        x.pass(1);
        due("it would", x.why(0), 0);
        x.stick(1);
        due("it would, on a wire with a fault that has rested", x.why(0), 0);
        x.pass(1);
        due("it speaks", x.why(0), 1);
        x.set(BusSilences.REST, 20);
        due("it speaks, on a wire with a fault", x.why(0), 1);
    }

    /** "NONE if it is not within 600": 978 beats from the beginning it is heard. */
    private static void endsInWithin600Heard() {
        BusSilences x = Scenes.patient();
        x.pass(377);
        due("in 601", x.endsIn(1, 0), BusSilences.NONE);
        due("in 601", x.endsIn(1, 1), BusSilences.NONE);
        x.pass(1);
        due("in 600", x.endsIn(1, 0), 600);
        due("heard", x.endsIn(1, 1), 1);
        x.pass(1);
        due("in 599", x.endsIn(1, 0), 599);
        due("not yet", x.pass(598), 0);
        due("it is heard", x.pass(1), 1);
        due("by the speaker's count", x.of(1, 6), 1);
    }

    /** Station 1 falls asleep in each of its tries, and so loses its word 705 beats from the beginning. */
    private static void endsInWithin600Lost() {
        BusSilences x = new BusSilences();
        x.set(BusSilences.REST, 20);
        x.set(BusSilences.FULL, 99);
        x.set(BusSilences.LOAD, 8);
        x.set(BusSilences.TRIES, 9);
        x.station(0b11);
        x.station(0b01);
        x.word(0, 0, 0);
        x.word(1, 0, 255);
        x.pass(104);
        due("in 601", x.endsIn(1, 0), BusSilences.NONE);
        due("in 601", x.endsIn(1, 1), BusSilences.NONE);
        x.pass(1);
        due("in 600", x.endsIn(1, 0), 600);
        due("lost", x.endsIn(1, 1), 2);
        x.pass(599);
        due("not yet", x.of(1, 7), 0);
        x.pass(1);
        due("it is lost", x.of(1, 7), 1);
    }

    private static void endsInCountsFromOne() {
        BusSilences x = Scenes.withStations(1, 1);
        x.word(0, 0, 3);
        x.word(0, 0, 0);
        for (int beats = 14; beats >= 1; beats--) {
            due("in so many", x.endsIn(0, 0), beats);
            due("heard", x.endsIn(0, 1), 1);
            due("heard now", x.pass(1), beats == 1 ? 1 : 0);
        }
        due("the next one, one beat of rest more", x.endsIn(0, 0), 12);
        x.set(BusSilences.TRIES, 1);
        x.pass(11);
        x.doze(1);
        due("lost in the next beat", x.endsIn(0, 0), 1);
        due("lost", x.endsIn(0, 1), 2);
    }

    /** Of a word in its middle those bits are left that were not spoken; its first one more is silenced by a fault. */
    private static void whatIfsKnowTheWordThatIsSpoken() {
        for (int one = 0; one < 8; one++) {
            BusSilences x = Scenes.withStations(1);
            x.set(BusSilences.TRIES, 1);
            x.word(0, 0, 128 >> one);
            x.pass(4);
            x.stick(0);
            due("lost in its one", x.endsIn(0, 0), 3 + one);
            due("lost", x.endsIn(0, 1), 2);
            due("quiet then", x.quietIn(), 3 + one);
            due("not heard", x.bestRest(20, 1), 0);
            x.pass(2 + one);
            due("not yet", x.count(6), 0);
            due("in one beat", x.endsIn(0, 0), 1);
            x.pass(1);
            due("lost", x.count(6), 1);
        }
    }

    /** "NONE if it is not within 900": 978 beats from the beginning no word waits. */
    private static void quietInWithin900() {
        BusSilences x = Scenes.patient();
        x.pass(77);
        due("in 901", x.quietIn(), BusSilences.NONE);
        x.pass(1);
        due("in 900", x.quietIn(), 900);
        x.pass(1);
        due("in 899", x.quietIn(), 899);
        x.pass(898);
        due("in 1", x.quietIn(), 1);
        due("a word waits", x.count(4), 1);
        x.pass(1);
        due("now", x.quietIn(), 0);
        due("no word waits", x.count(4), 0);
    }

    /** "Returns how many (0 if none does now)" */
    private static void quietInFromZero() {
        BusSilences x = new BusSilences();
        due("no station", x.quietIn(), 0);
        x.station(1);
        due("no word", x.quietIn(), 0);
        x.word(0, 0, 0);
        for (int beats = 14; beats >= 0; beats--) {
            due("in so many", x.quietIn(), beats);
            x.pass(1);
        }
        x.word(0, 0, 0);
        x.pass(5);
        x.forget(0);
        due("forgotten", x.quietIn(), 0);
    }

    /** Seven stations pull wire 0 low in turn; station 7, at that wire only, falls asleep 643 beats from the beginning. */
    private static BusSilences weary() {
        BusSilences x = new BusSilences();
        x.set(BusSilences.FULL, 99);
        x.set(BusSilences.REST, 20);
        x.set(BusSilences.TRIES, 9);
        for (int station = 0; station < 7; station++) {
            x.station(0b111);
            for (int word = 0; word < 4; word++) x.word(station, 0, 0b11111000);
        }
        x.station(1);
        return x;
    }

    /** "NONE if it is not within 600" */
    private static void sleepsInWithin600() {
        BusSilences x = weary();
        x.pass(42);
        due("in 601", x.sleepsIn(7), BusSilences.NONE);
        x.pass(1);
        due("in 600", x.sleepsIn(7), 600);
        x.pass(1);
        due("in 599", x.sleepsIn(7), 599);
        x.pass(598);
        due("in 1", x.sleepsIn(7), 1);
        due("awake", x.of(7, 2), 0);
        x.pass(1);
        due("asleep", x.of(7, 2), 1);
        due("now", x.sleepsIn(7), 0);
    }

    /** "Returns how many (0 if it is asleep by itself)" */
    private static void sleepsInFromZero() {
        BusSilences x = Scenes.withStations(1, 1);
        x.set(BusSilences.FEED, 0);
        x.doze(1);
        due("put to sleep, not by itself", x.sleepsIn(1), BusSilences.NONE);
        for (int beats = 41; beats >= 0; beats--) {
            due("in so many", x.sleepsIn(0), beats);
            if (beats > 0) x.pass(1);
        }
        x.doze(0);
        due("both", x.sleepsIn(0), 0);
        x.doze(0);
        x.set(BusSilences.FEED, 9);
        x.pass(3);
        due("awake again", x.sleepsIn(0), BusSilences.NONE);
    }

    private interface Way {
        BusSilences take();
    }

    /** "the REST, 1 to 20, with which the most words would be heard in some beats, of several the greatest one" */
    private static void bestRestIsTheOneThatPassTells() {
        Way[] ways = {BusSilences::new, Scenes::throng, Scenes::patient, Scenes::busy, AheadTest::weary, AheadTest::inTheMiddle};
        for (Way way : ways) {
            for (int beats : new int[] {1, 2, 3, 4, 19, 20, 50, 199, 200}) {
                int best = 0;
                int most = 0;
                for (int rest = 1; rest <= 20; rest++) {
                    BusSilences tried = way.take();
                    tried.set(BusSilences.REST, rest);
                    int words = tried.pass(beats);
                    if (words >= most) best = rest;
                    most = Math.max(words, most);
                }
                due("best REST for " + beats, way.take().bestRest(beats, 0), best);
                due("words in " + beats, way.take().bestRest(beats, 1), most);
            }
        }
    }

    /** A word has four beats left, and one more word is heard in 200 beats than in 199. */
    private static BusSilences inTheMiddle() {
        BusSilences x = Scenes.throng();
        x.pass(10);
        return x;
    }

    private static void bestRestTakes1To200Beats() {
        BusSilences x = inTheMiddle();
        due("0", x.bestRest(0, 1), BusSilences.BAD_VALUE);
        due("3", x.bestRest(3, 1), 0);
        due("4", x.bestRest(4, 1), 1);
        due("199", x.bestRest(199, 1), 18);
        due("200", x.bestRest(200, 1), 19);
        due("201", x.bestRest(201, 1), BusSilences.BAD_VALUE);
        x.pass(3);
        due("1", x.bestRest(1, 1), 1);
        due("what -1", x.bestRest(1, -1), BusSilences.BAD_VALUE);
        due("what 2", x.bestRest(1, 2), BusSilences.BAD_VALUE);
    }

    private static void bestRestOfSeveral() {
        BusSilences x = Scenes.withStations(1);
        due("all are alike", x.bestRest(200, 0), 20);
        x.word(0, 0, 0);
        for (int rest = 1; rest <= 20; rest++) {
            due("one beat too few for " + rest, x.bestRest(rest + 10, 0), rest == 1 ? 20 : rest - 1);
            due("words", x.bestRest(rest + 10, 1), rest == 1 ? 0 : 1);
            due("just enough for " + rest, x.bestRest(rest + 11, 0), rest);
            due("words", x.bestRest(rest + 11, 1), 1);
        }
        due("more than enough for all", x.bestRest(32, 0), 20);
    }

    /** "Finds the wire for which the most words wait, of several the lowest one." */
    private static void busiestOfSeveral() {
        BusSilences x = new BusSilences();
        due("no word", x.busiest(), BusSilences.NONE);
        x.station(63);
        x.station(63);
        for (int wire = 5; wire >= 2; wire--) {
            x.word(0, wire, 0);
            due("the lowest of those with one", x.busiest(), wire);
        }
        x.word(1, 1, 0);
        x.word(1, 0, 0);
        due("wire 0", x.busiest(), 0);
        x.word(1, 5, 0);
        due("wire 5 has two", x.busiest(), 5);
        x.word(1, 4, 0);
        due("wire 4 has two, too", x.busiest(), 4);
    }
}
