/** The heading "Texts": at each place of a text each character that can stand there, and each that can not. */
public final class TextPlacesTest {
    private static final Check CHECK = new Check("TextPlacesTest");
    private static final String WIRES = "abcdef", DIGITS = "0123456789", ORDERS = "sw!zb";
    /** A text that is read up to its end, the characters that can stand behind it, and whether it may end there. */
    private static final Object[][] PLACES = {
        {"", ORDERS, false},
        {"s", WIRES, false},
        {"sa", "bcdef;", true},
        {"sf", "abcde;", true},
        {"sfa", "bcde;", true},
        {"sfedcb", "a;", true},
        {"sabcde", "f;", true},
        {"sabcdef", ";", true},
        {"w", DIGITS, false},
        {"w0", WIRES, false},
        {"w9", WIRES, false},
        {"w0a", "=", false},
        {"w9f", "=", false},
        {"w0a=", DIGITS, false},
        {"w0a=0", ";", true},
        {"w0a=1", DIGITS + ";", true},
        {"w0a=25", DIGITS + ";", true},
        {"w0a=255", ";", true},
        {"w0a=99", DIGITS + ";", true},
        {"w0a=100", ";", true},
        {"w0a=999", ";", true},
        {"!", WIRES, false},
        {"!a", ";", true},
        {"!f", ";", true},
        {"z", DIGITS, false},
        {"z0", ";", true},
        {"z9", ";", true},
        {"b", DIGITS, false},
        {"b0", ";", true},
        {"b1", DIGITS + ";", true},
        {"b9", DIGITS + ";", true},
        {"b10", DIGITS + ";", true},
        {"b99", DIGITS + ";", true},
        {"b100", ";", true},
        {"b999", ";", true},
        {"sa;", ORDERS, false},
        {"w0a=1;", ORDERS, false},
        {"!a;", ORDERS, false},
        {"z0;", ORDERS, false},
        {"b1;", ORDERS, false},
        {"sa;s", WIRES, false},
        {"sab;sb", "acdef;", true},
        {"b0;b", DIGITS, false},
        {"b999;b999", ";", true},
        {"z0;w1b=0;!c;b12;sabc", "def;", true},
    };

    public static void main(String[] args) {
        for (Object[] place : PLACES) {
            aTextEndsHereOrTooEarly((String) place[0], (Boolean) place[2]);
            eachCharacterAtThisPlace((String) place[0], (String) place[1]);
        }
        theFirstFaultIsTold();
        aFaultStandsAnywhereOnTheFullPad();
        thePadTakes1To8Characters();
        thePadTakesTheCodes33To126();
        aGapMayNotBeFilledAbove();
        thePadHas80Characters();
        CHECK.end();
    }

    private static void due(String call, long got, long want) {
        CHECK.due(call, got, want);
    }

    private static int faultOf(String text) {
        BusSilences x = new BusSilences();
        Scenes.write(x, text);
        due("length of " + text, x.count(15), text.length());
        return x.fault();
    }

    /** "if there is none and the text ends too early (also if it is empty), it is the length of the text" */
    private static void aTextEndsHereOrTooEarly(String text, boolean mayEnd) {
        due("fault of " + text, faultOf(text), mayEnd ? BusSilences.NONE : text.length());
    }

    /** "the index of the first character that cannot stand at its place" */
    private static void eachCharacterAtThisPlace(String text, String allowed) {
        for (char sign = 33; sign <= 126; sign++) {
            int fault = faultOf(text + sign);
            if (allowed.indexOf(sign) < 0) {
                due("fault of " + text + sign, fault, text.length());
                due("fault of " + text + sign + ", read on", faultOf(text + sign + ";sa"), text.length());
            } else {
                due(sign + " can stand behind " + text, fault == BusSilences.NONE || fault == text.length() + 1 ? 1 : 0, 1);
            }
        }
    }

    private static void theFirstFaultIsTold() {
        due("two faults", faultOf("sa;b01;sbb"), 5);
        due("the second alone", faultOf("sa;b1;sbb"), 8);
        due("a fault, and too early an end", faultOf("zz;"), 1);
        due("too early an end alone", faultOf("z1;"), 3);
    }

    private static void aFaultStandsAnywhereOnTheFullPad() {
        String plan = "b1;".repeat(26) + "b1";
        due("none", faultOf(plan), BusSilences.NONE);
        for (int at = 0; at < 80; at++) {
            due("at " + at, faultOf(plan.substring(0, at) + '~' + plan.substring(at + 1)), at);
            if (at % 3 != 2) due("too early an end at " + at, faultOf(plan.substring(0, at)), at);
        }
        due("too early an end of a full pad", faultOf("b12;" + "b1;".repeat(25) + "b"), 80);
        due("a number up to the pad's end", faultOf("b1;".repeat(25) + "!a;b9"), BusSilences.NONE);
        due("a wire at the pad's end", faultOf("b1;".repeat(25) + "!a;!f"), BusSilences.NONE);
    }

    /** "characters: 1 to 8 characters": "its lowest 8 bits are the last character" */
    private static void thePadTakes1To8Characters() {
        String text = "sab;b123";
        for (int length = 1; length <= 8; length++) {
            BusSilences x = new BusSilences();
            due("put " + length, x.put(Scenes.packed(text.substring(0, length))), length);
            due("in order, so far as it goes", x.fault(), length == 2 || length == 3 || length >= 6 ? BusSilences.NONE : length);
        }
        due("none", new BusSilences().put(0), BusSilences.BAD_VALUE);
    }

    /** "a code is not 33 to 126" */
    private static void thePadTakesTheCodes33To126() {
        for (int place = 0; place < 8; place++) {
            for (int code = 0; code < 256; code++) {
                long characters = Scenes.packed("aaaaaaaa") & ~(255L << 8 * place) | (long) code << 8 * place;
                BusSilences x = new BusSilences();
                boolean one = code >= 33 && code <= 126;
                boolean none = code == 0 && place == 7;
                due("code " + code + ", place " + place, x.put(characters), one ? 8 : none ? 7 : BusSilences.BAD_VALUE);
                due("length then", x.count(15), one ? 8 : none ? 7 : 0);
            }
        }
    }

    /** "a bit above 8 bits that are 0 is not 0" */
    private static void aGapMayNotBeFilledAbove() {
        for (int gap = 0; gap < 8; gap++) {
            long below = gap == 0 ? 0 : Scenes.packed("aaaaaaa".substring(0, gap));
            BusSilences x = new BusSilences();
            due("nothing above the gap " + gap, x.put(below), gap == 0 ? BusSilences.BAD_VALUE : gap);
            for (int bit = 8 * gap + 8; bit < 64; bit++) {
                due("bit " + bit + " above the gap " + gap, x.put(below | 1L << bit), BusSilences.BAD_VALUE);
            }
            due("length", x.count(15), gap);
        }
    }

    /** "TOO_MANY if the pad would be longer than 80" */
    private static void thePadHas80Characters() {
        for (int length = 70; length <= 80; length++) {
            for (int more = 1; more <= 8; more++) {
                BusSilences x = new BusSilences();
                Scenes.write(x, "~".repeat(length));
                int then = length + more <= 80 ? length + more : length;
                int answer = length + more <= 80 ? then : BusSilences.TOO_MANY;
                due(more + " behind " + length, x.put(Scenes.packed("aaaaaaaa".substring(0, more))), answer);
                due("length then", x.count(15), then);
                due("wiped", x.wipe(), then);
            }
        }
    }
}
