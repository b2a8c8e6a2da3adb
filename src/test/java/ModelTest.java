/** Long runs of calls, always the same ones, on the class and on the model: each answer must be alike. */
public final class ModelTest {
    /** The document promises 512 calls; to compare all there is takes 363 of them, a turn three at most. */
    private static final int RUNS = 800, CALLS = 512, COMPARED = 363, TURN = 3;
    private static final String[] ORDERS = {"sa", "sab", "sfc", "sabcdef", "w0a=0", "w1b=255", "w2a=170", "w0f=999", "!a", "!f", "z0",
        "z1", "z9", "b1", "b7", "b30", "b0", "b999", "w0a=5;w1a=6", "sa;sa;b12"};

    private final Check check = new Check("ModelTest");
    private long seed;
    private BusSilences x;
    private Model model;
    private int style;
    private int made;

    public static void main(String[] args) {
        ModelTest test = new ModelTest();
        for (int run = 0; run < RUNS; run++) test.answersAreAlike(run);
        test.check.end();
    }

    /** A row of numbers that is the same in every run of the test. */
    private int below(int bound) {
        seed = seed * 6364136223846793005L + 1442695040888963407L;
        return (int) ((seed >>> 33) % bound);
    }

    private boolean oneIn(int times) {
        return below(times) == 0;
    }

    private int odd() {
        int[] odd = {-1, -2, 6, 7, 8, 9, 10, 17, 64, 256, 1000, 31, 32, 33, Integer.MAX_VALUE, Integer.MIN_VALUE};
        return odd[below(odd.length)];
    }

    private int mostly(int bound) {
        return oneIn(40) ? odd() : below(bound);
    }

    private int someStation() {
        int stations = model.count(1);
        return oneIn(30) || stations == 0 ? mostly(9) : below(stations);
    }

    private void answersAreAlike(int run) {
        seed = run * 7919L + 1;
        style = run % 8;
        x = new BusSilences();
        model = new Model();
        made = 0;
        boolean comparedAtItsEnd = run / 8 % 2 == 0;
        int calls = comparedAtItsEnd ? CALLS - COMPARED : CALLS;
        for (int turn = 0; made + TURN <= calls; turn++) {
            String at = "run " + run + ", turn " + turn + ": ";
            if (turn < 8 && style != 0) {
                begin(at);
            } else {
                call(at);
            }
        }
        if (comparedAtItsEnd) compareAll("run " + run + ", at its end: ");
    }

    private void compareAll(String at) {
        for (int what = 0; what <= 16; what++) due(at + "count(" + what + ")", x.count(what), model.count(what));
        for (int wire = 0; wire < 6; wire++) {
            for (int what = 0; what <= 6; what++) due(at + "ofWire(" + wire + ", " + what + ")", x.ofWire(wire, what), model.ofWire(wire, what));
        }
        for (int station = 0; station < 8; station++) {
            String of = at + "station " + station + ", ";
            for (int what = 0; what <= 9; what++) due(of + "of " + what, x.of(station, what), model.of(station, what));
            for (int place = 0; place < 12; place++) {
                due(of + "row " + place, x.row(station, place / 3, place % 3), model.row(station, place / 3, place % 3));
            }
            for (int place = 0; place < 16; place++) {
                due(of + "heard " + place, x.heard(station, place / 4, place % 4), model.heard(station, place / 4, place % 4));
            }
        }
    }

    /** Sets the scene, so that runs differ: crowds at a wire, poor ones, patient ones. */
    private void begin(String at) {
        int wires = style < 3 ? 1 + below(3) : 1 + below(63);
        due(at + "station(" + wires + ")", x.station(wires), model.station(wires));
        int[] setting = {-1, -1, 0, 1, 2, 3, 4, 0};
        if (setting[style] >= 0) set(at, setting[style], 1 + below(9));
        word(at);
    }

    private void set(String at, int setting, int value) {
        due(at + "set(" + setting + ", " + value + ")", x.set(setting, value), model.set(setting, value));
    }

    private void word(String at) {
        int station = someStation();
        int wire = mostly(6);
        int wires = model.of(station, 0);
        if (wires > 0 && !oneIn(6)) wire = Integer.numberOfTrailingZeros(wires);
        int[] numbers = {0, 255, below(256), below(256), 254, 128, 1, 15};
        int number = oneIn(40) ? odd() : numbers[below(8)];
        due(at + "word(" + station + ", " + wire + ", " + number + ")", x.word(station, wire, number), model.word(station, wire, number));
    }

    private void call(String at) {
        int kind = below(100);
        if (kind < 20) {
            word(at);
        } else if (kind < 45) {
            int beats = oneIn(40) ? odd() : oneIn(60) ? 1 + below(999) : 1 + below(oneIn(4) ? 40 : 6);
            due(at + "pass(" + beats + ")", x.pass(beats), model.pass(beats));
        } else if (kind < 52) {
            changeTheScene(at);
        } else if (kind < 82) {
            look(at);
        } else if (kind < 88) {
            ask(at);
        } else if (kind < 94) {
            text(at);
        } else {
            goBack(at);
        }
    }

    private void changeTheScene(String at) {
        int station = someStation();
        switch (below(9)) {
            case 0: case 1: {
                int wires = oneIn(20) ? odd() : 1 + below(63);
                due(at + "station(" + wires + ")", x.station(wires), model.station(wires));
                break;
            }
            case 2: case 3: due(at + "doze(" + station + ")", x.doze(station), model.doze(station)); break;
            case 4: case 5: {
                int wire = mostly(6);
                due(at + "stick(" + wire + ")", x.stick(wire), model.stick(wire));
                break;
            }
            case 6: due(at + "forget(" + station + ")", x.forget(station), model.forget(station)); break;
            default: set(at, mostly(5), oneIn(5) ? below(100) : below(10));
        }
    }

    private void look(String at) {
        int station = someStation();
        int rank = oneIn(30) ? odd() : below(5);
        switch (below(5)) {
            case 0: {
                int wire = mostly(6);
                int what = mostly(7);
                due(at + "ofWire(" + wire + ", " + what + ")", x.ofWire(wire, what), model.ofWire(wire, what));
                break;
            }
            case 1: {
                int what = mostly(10);
                due(at + "of(" + station + ", " + what + ")", x.of(station, what), model.of(station, what));
                break;
            }
            case 2: {
                int what = mostly(3);
                due(at + "row(" + station + ", " + rank + ", " + what + ")", x.row(station, rank, what), model.row(station, rank, what));
                break;
            }
            case 3: {
                int what = mostly(4);
                due(at + "heard(" + station + ", " + rank + ", " + what + ")", x.heard(station, rank, what), model.heard(station, rank, what));
                break;
            }
            default: {
                int what = mostly(17);
                due(at + "count(" + what + ")", x.count(what), model.count(what));
            }
        }
    }

    private void ask(String at) {
        int station = someStation();
        int what = oneIn(30) ? odd() : below(2);
        switch (below(8)) {
            case 0: case 1: due(at + "why(" + station + ")", x.why(station), model.why(station)); break;
            case 2: case 3: due(at + "endsIn(" + station + ", " + what + ")", x.endsIn(station, what), model.endsIn(station, what)); break;
            case 4: due(at + "quietIn()", x.quietIn(), model.quietIn()); break;
            case 5: {
                int beats = oneIn(20) ? odd() : 1 + below(oneIn(3) ? 200 : 50);
                due(at + "bestRest(" + beats + ", " + what + ")", x.bestRest(beats, what), model.bestRest(beats, what));
                break;
            }
            case 6: due(at + "busiest()", x.busiest(), model.busiest()); break;
            default: due(at + "sleepsIn(" + station + ")", x.sleepsIn(station), model.sleepsIn(station));
        }
    }

    private void text(String at) {
        int kind = below(12);
        if (kind < 5) {
            writeAnOrder(at);
        } else if (kind < 6) {
            String signs = "swzb!;=abcdefg0123456789~";
            put(at, signs.charAt(below(signs.length())));
        } else if (kind < 7) {
            put(at, oneIn(2) ? (long) below(Integer.MAX_VALUE) << below(33) : -1L - below(99));
        } else if (kind < 9) {
            due(at + "fault()", x.fault(), model.fault());
        } else if (kind < 11) {
            due(at + "carryOut()", x.carryOut(), model.carryOut());
        } else {
            due(at + "wipe()", x.wipe(), model.wipe());
        }
    }

    private void writeAnOrder(String at) {
        String order = ORDERS[below(ORDERS.length)];
        if (model.count(15) > 0 && !oneIn(10)) order = ";" + order;
        for (int from = 0; from < order.length(); from += 8) {
            long characters = 0;
            for (int i = from; i < Math.min(from + 8, order.length()); i++) characters = characters << 8 | order.charAt(i);
            put(at, characters);
        }
    }

    private void put(String at, long characters) {
        due(at + "put(" + characters + ")", x.put(characters), model.put(characters));
    }

    private void goBack(String at) {
        int slot = oneIn(20) ? odd() : below(2);
        switch (below(5)) {
            case 0: case 1: due(at + "undo()", x.undo(), model.undo()); break;
            case 2: case 3: due(at + "save(" + slot + ")", x.save(slot), model.save(slot)); break;
            default: due(at + "restore(" + slot + ")", x.restore(slot), model.restore(slot));
        }
    }

    /** Each answer is that of one call. */
    private void due(String call, long got, long want) {
        made++;
        check.due(call, got, want);
    }
}
