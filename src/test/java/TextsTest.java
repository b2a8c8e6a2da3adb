/** Promises 20 to 23: texts. */
public final class TextsTest {
    private static final Check CHECK = new Check("TextsTest");

    public static void main(String[] args) {
        putTakesEightCharacters();
        putRefuses();
        putStopsAt80();
        wipeEmpties();
        faultsStandWhereReadingEnds();
        faultTakesEveryDigitAndWire();
        carryOutCarriesAll();
        carryOutStopsAtAnError();
        carryOutRefusesAFault();
        carryOutIsOneChange();
        everyOrderMayFail();
        CHECK.end();
    }

    private static void due(String call, long got, long want) {
        CHECK.due(call, got, want);
    }

    private static void putTakesEightCharacters() {
        BusSilences x = new BusSilences();
        due("one", x.put(33), 1);
        due("one", x.put(126), 2);
        due("two", x.put(0x2121), 4);
        due("eight", x.put(0x7e7e7e7e7e7e7e7eL), 12);
        due("seven", x.put(0x21217e21217e21L), 19);
        due("pad", x.count(15), 19);
        x.wipe();
        x.put('s' << 8 | 'a');
        due("the lowest bits are the last character", x.fault(), BusSilences.NONE);
        x.put(';' << 16 | 'b' << 8 | '7');
        due("appended behind", x.fault(), BusSilences.NONE);
        due("carried out in order", x.carryOut(), 2);
        due("beats", x.count(0), 7);
    }

    private static void putRefuses() {
        BusSilences x = new BusSilences();
        long[] bad = {0, -1, 32, 127, 128, 255, 31, 0x2061L, 0x6120L, 0x7f61L, 0x6100L, 0x610061L, 0x6100000000000000L,
            0x6100000000000061L, 0x6161610061616161L, 0x8061616161616161L, 0x2061616161616161L, Long.MIN_VALUE,
            Long.MIN_VALUE | 0x61, 1L << 32, 1L << 32 | 0x61, Long.MAX_VALUE};
        for (long characters : bad) due("put(" + Long.toHexString(characters) + ")", x.put(characters), BusSilences.BAD_VALUE);
        due("pad", x.count(15), 0);
    }

    private static void putStopsAt80() {
        BusSilences x = new BusSilences();
        for (int length = 8; length <= 72; length += 8) due("put", x.put(0x6161616161616161L), length);
        due("79", x.put(0x61616161616161L), 79);
        due("two more", x.put(0x6161), BusSilences.TOO_MANY);
        due("79", x.count(15), 79);
        due("one more", x.put(0x61), 80);
        due("and one", x.put(0x61), BusSilences.TOO_MANY);
        due("a bad one", x.put(0x20), BusSilences.BAD_VALUE);
        due("a bad one", x.put(0), BusSilences.BAD_VALUE);
        due("80", x.count(15), 80);
        due("80", x.wipe(), 80);
        Scenes.write(x, "b1;b1;b1;b1;b1;b1;b1;b1;b1;b1;b1;b1;b1;b1;b1;b1;b1;b1;b1;b1;b1;b1;b1;b1;b1;b1;b1");
        due("a full text", x.count(15), 80);
        due("a full text", x.fault(), BusSilences.NONE);
        due("27 orders", x.carryOut(), 27);
        due("27 beats", x.count(0), 27);
    }

    private static void wipeEmpties() {
        BusSilences x = new BusSilences();
        due("empty", x.wipe(), 0);
        Scenes.write(x, "sa;b5;q");
        due("seven", x.wipe(), 7);
        due("empty", x.count(15), 0);
        due("empty", x.fault(), 0);
        due("empty", x.wipe(), 0);
        due("no change", x.count(16), 0);
        due("no change", x.undo(), BusSilences.NOT_POSSIBLE);
        due("the old text is gone", x.put('z'), 1);
        due("the old text is gone", x.fault(), 1);
        x.wipe();
        due("the old text is gone", x.put('s'), 1);
        due("the old text is gone", x.fault(), 1);
    }

    private static void fault(String text, int want) {
        BusSilences x = new BusSilences();
        Scenes.write(x, text);
        due("length of " + text, x.count(15), text.length());
        due("fault of " + text, x.fault(), want);
        due("the pad stays", x.count(15), text.length());
        due("no change", x.count(16), 0);
    }

    private static void faultsStandWhereReadingEnds() {
        int none = BusSilences.NONE;
        fault("", 0);
        for (String text : new String[] {";", "x", "S", "a", "0", "=", "~", ";sa"}) fault(text, 0);
        fault("s", 1);
        fault("sa", none);
        fault("saa", 2);
        fault("sg", 1);
        fault("s;", 1);
        fault("s0", 1);
        fault("sA", 1);
        fault("s`", 1);
        fault("sfedcba", none);
        fault("sabcdefa", 7);
        fault("sabcdef;", 8);
        fault("sabca", 4);
        fault("sag", 2);
        fault("sas", 2);
        fault("sa;", 3);
        fault("sa;;", 3);
        fault("sa;sa", none);
        fault("sa;saa", 5);
        fault("w", 1);
        fault("w0", 2);
        fault("w0a", 3);
        fault("w0a=", 4);
        fault("w0a=0", none);
        fault("w0a=00", 5);
        fault("w0a=01", 5);
        fault("w0a=255", none);
        fault("w0a=999", none);
        fault("w0a=1000", 7);
        fault("w0a=9999", 7);
        fault("w0a=1;", 6);
        fault("w0a=;", 4);
        fault("w0a=-1", 4);
        fault("w0a:1", 3);
        fault("w0ab=1", 3);
        fault("w0g=1", 2);
        fault("w10a=1", 2);
        fault("wa0=1", 1);
        fault("w/a=1", 1);
        fault("w:a=1", 1);
        fault("!", 1);
        fault("!a", none);
        fault("!ab", 2);
        fault("!g", 1);
        fault("!0", 1);
        fault("!;", 1);
        fault("z", 1);
        fault("z9", none);
        fault("z10", 2);
        fault("za", 1);
        fault("z;", 1);
        fault("b", 1);
        fault("b0", none);
        fault("b00", 2);
        fault("b09", 2);
        fault("b10", none);
        fault("b999", none);
        fault("b1000", 4);
        fault("b1001", 4);
        fault("b1009", 4);
        fault("b9990", 4);
        fault("w0a=1009", 7);
        fault("b100a", 4);
        fault("ba", 1);
        fault("b/", 1);
        fault("b:", 1);
        fault("b1;", 3);
        fault("b1;x", 3);
        fault("b1x", 2);
        fault("b1,b2", 2);
        fault("sa;w0a=12;!f;z0;b35", none);
        fault("sa;w0a=12;!f;z0;b35;", 20);
        fault("sa;w0a=12;!f;z0;b350;b3511", 25);
    }

    private static void faultTakesEveryDigitAndWire() {
        for (int digit = 0; digit <= 9; digit++) {
            fault("z" + digit, BusSilences.NONE);
            fault("b" + digit, BusSilences.NONE);
            fault("w" + digit + "f=" + digit, BusSilences.NONE);
        }
        for (char wire = 'a'; wire <= 'f'; wire++) {
            fault("s" + wire, BusSilences.NONE);
            fault("!" + wire, BusSilences.NONE);
            fault("w0" + wire + "=1", BusSilences.NONE);
            fault("s" + wire + wire, 2);
        }
    }

    private static void carryOutCarriesAll() {
        BusSilences x = new BusSilences();
        Scenes.write(x, "sfa;sb;w0f=254;w1b=7;!c;z1;b3;!c;!d");
        due("no fault", x.fault(), BusSilences.NONE);
        due("orders", x.carryOut(), 9);
        due("the pad is empty", x.count(15), 0);
        due("stations", x.count(1), 2);
        due("wires of 0", x.of(0, 0), 0b100001);
        due("wires of 1", x.of(1, 0), 0b10);
        due("word of 0", x.row(0, 0, 0), 254);
        due("its wire", x.row(0, 0, 1), 5);
        due("word of 1", x.row(1, 0, 0), 7);
        due("put to sleep", x.of(1, 2), 2);
        due("faults", x.count(8), 0b1000);
        due("beats", x.count(0), 3);
        due("low for three", x.ofWire(2, 0), 0);
        due("high for three", x.ofWire(3, 0), 3);
    }

    private static void carryOutStopsAtAnError() {
        BusSilences x = new BusSilences();
        Scenes.write(x, "sa;b2;w0b=1;b5;sc");
        due("two orders", x.carryOut(), 2);
        due("the pad is empty", x.count(15), 0);
        due("beats", x.count(0), 2);
        due("stations", x.count(1), 1);
        due("one change", x.count(16), 1);
        Scenes.write(x, "z5;b1");
        due("none", x.carryOut(), 0);
        due("a change all the same", x.count(16), 2);
        due("nothing is different", x.count(0), 2);
        due("undone", x.undo(), 1);
        due("nothing is different", x.count(1), 1);
    }

    private static void carryOutRefusesAFault() {
        BusSilences x = new BusSilences();
        due("empty", x.carryOut(), BusSilences.BAD_TEXT);
        Scenes.write(x, "sa;b2;q");
        due("a fault at its end", x.carryOut(), BusSilences.BAD_TEXT);
        due("the pad stays", x.count(15), 7);
        due("nothing was done", x.count(1), 0);
        due("nothing recorded", x.count(16), 0);
        x.wipe();
        Scenes.write(x, "sa;");
        due("too early an end", x.carryOut(), BusSilences.BAD_TEXT);
        due("mended", x.put('b' << 8 | '1'), 5);
        due("carried out", x.carryOut(), 2);
    }

    private static void carryOutIsOneChange() {
        BusSilences x = new BusSilences();
        x.pass(4);
        Scenes.write(x, "sa;sb;sc;sd;se;sf;b9;!a;z3");
        due("orders", x.carryOut(), 9);
        due("one change", x.count(16), 2);
        x.put('b' << 8 | '1');
        due("undo", x.undo(), 1);
        due("stations", x.count(1), 0);
        due("beats", x.count(0), 4);
        due("faults", x.count(8), 0);
        due("the pad stays as it is", x.count(15), 2);
    }

    private static void stops(String text, int carried) {
        BusSilences x = new BusSilences();
        Scenes.write(x, text);
        due("no fault in " + text, x.fault(), BusSilences.NONE);
        due("orders of " + text, x.carryOut(), carried);
        due("the pad is empty", x.count(15), 0);
    }

    private static void everyOrderMayFail() {
        stops("sa;sa;sa;sa;sa;sa;sa;sa;sa;b1", 8);
        stops("sa;w0a=0;w0a=0;w0a=0;w0a=0;w0a=0;b1", 5);
        stops("sa;w0a=255;w0a=256;b1", 2);
        stops("sa;w8a=1;b1", 1);
        stops("w0a=1;sa", 0);
        stops("z0;sa", 0);
        stops("sa;z9", 1);
        stops("b1;b0;b1", 1);
        stops("b999;b999", 2);
        BusSilences x = new BusSilences();
        for (int times = 0; times < 100; times++) x.pass(999);
        Scenes.write(x, "b90;b10;b9");
        due("too many beats", x.carryOut(), 1);
        due("beats", x.count(0), 99990);
    }
}
