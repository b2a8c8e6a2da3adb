import java.util.ArrayDeque;
import java.util.ArrayList;
import java.util.Deque;
import java.util.List;
import java.util.function.IntSupplier;
import java.util.regex.Matcher;
import java.util.regex.Pattern;

/**
 * The document once more, written as plainly as can be and otherwise than the class: objects in lists,
 * states copied whole, texts read by a pattern. ModelTest compares the two.
 */
final class Model {
    private static final int NO_SUCH = -1, BAD_VALUE = -2, BAD_TEXT = -3, TOO_MANY = -4, NOT_POSSIBLE = -5, NONE = -6;
    private static final Pattern PLAN = Pattern.compile(order() + "(?:;" + order() + ")*");

    private State state = new State();
    private final Deque<State> history = new ArrayDeque<>();
    private final State[] slots = new State[2];
    private String pad = "";

    private static String order() {
        String number = "(?:0|[1-9][0-9]{0,2})";
        return "(?:s[a-f]+|w[0-9][a-f]=" + number + "|![a-f]|z[0-9]|b" + number + ")";
    }

    private static final class Word {
        int number, wire, tries;
    }

    private static final class Known {
        int number, speaker, wire, beat;
    }

    private static final class Member {
        int name, wires, charge;
        boolean empty, dozing;
        List<Word> words = new ArrayList<>();
        List<Known> known = new ArrayList<>();
        boolean[] spoken; // the bits of the word, null if it does not speak
        int said;
        List<Integer> listeners = new ArrayList<>();
        int heardOf, lost, heardBy, gaveUp;

        boolean awake() {
            return !empty && !dozing;
        }

        boolean at(int wire) {
            return wire >= 0 && wire <= 5 && (wires / (1 << wire)) % 2 == 1;
        }
    }

    private static final class State {
        int[] settings = {3, 40, 1, 1, 4};
        boolean[] fault = new boolean[6];
        int[] high = new int[6], heard = new int[6], lost = new int[6];
        List<Member> members = new ArrayList<>();
        int beats;

        State copy() {
            State c = new State();
            c.settings = settings.clone();
            c.fault = fault.clone();
            c.high = high.clone();
            c.heard = heard.clone();
            c.lost = lost.clone();
            c.beats = beats;
            for (Member m : members) c.members.add(copyOf(m));
            return c;
        }

        private static Member copyOf(Member m) {
            Member c = new Member();
            c.name = m.name;
            c.wires = m.wires;
            c.charge = m.charge;
            c.empty = m.empty;
            c.dozing = m.dozing;
            for (Word w : m.words) {
                Word d = new Word();
                d.number = w.number;
                d.wire = w.wire;
                d.tries = w.tries;
                c.words.add(d);
            }
            c.known.addAll(m.known);
            c.spoken = m.spoken;
            c.said = m.said;
            c.listeners = new ArrayList<>(m.listeners);
            c.heardOf = m.heardOf;
            c.lost = m.lost;
            c.heardBy = m.heardBy;
            c.gaveUp = m.gaveUp;
            return c;
        }

        Member member(int station) {
            return station < 0 || station >= members.size() ? null : members.get(station);
        }

        void quiet(Member m) {
            m.spoken = null;
            m.said = 0;
            m.listeners.clear();
        }

        void giveUp(Member m) {
            Word w = m.words.get(0);
            w.tries++;
            m.gaveUp++;
            quiet(m);
            if (w.tries >= settings[4]) {
                m.words.remove(0);
                m.lost++;
                lost[w.wire]++;
            }
        }

        int beat() {
            List<Member> begin = new ArrayList<>();
            for (Member m : members) {
                if (m.awake() && m.spoken == null && !m.words.isEmpty() && high[m.words.get(0).wire] >= settings[0]) begin.add(m);
            }
            for (Member m : begin) {
                Word w = m.words.get(0);
                m.spoken = new boolean[11];
                for (int b = 0; b < 3; b++) m.spoken[b] = (m.name & (4 >> b)) != 0;
                for (int b = 0; b < 8; b++) m.spoken[3 + b] = (w.number & (128 >> b)) != 0;
                m.said = 0;
                for (Member l : members) if (l.awake() && l.at(w.wire)) m.listeners.add(l.name);
            }
            boolean[] low = fault.clone();
            for (Member m : members) if (m.spoken != null && !m.spoken[m.said]) low[m.words.get(0).wire] = true;
            int ended = 0;
            for (Member m : members) {
                if (m.spoken == null) continue;
                Word w = m.words.get(0);
                if (m.spoken[m.said] && low[w.wire]) {
                    giveUp(m);
                    continue;
                }
                m.said++;
                if (m.said < 11) continue;
                boolean all = true;
                for (int l : m.listeners) all &= members.get(l).awake();
                if (!all) {
                    giveUp(m);
                    continue;
                }
                for (int l : m.listeners) {
                    if (l == m.name) continue;
                    Known k = new Known();
                    k.number = w.number;
                    k.speaker = m.name;
                    k.wire = w.wire;
                    k.beat = beats;
                    members.get(l).known.add(0, k);
                    members.get(l).heardBy++;
                }
                m.words.remove(0);
                m.heardOf++;
                heard[w.wire]++;
                quiet(m);
                ended++;
            }
            for (Member m : members) {
                int charge = m.charge;
                for (int wire = 0; wire < 6; wire++) if (m.at(wire) && !low[wire]) charge += settings[3];
                if (m.awake()) charge -= settings[2];
                if (charge > settings[1]) charge = settings[1];
                boolean falls = charge < 0;
                m.charge = falls ? 0 : charge;
                if (falls) {
                    m.empty = true;
                    if (m.spoken != null) giveUp(m);
                }
                if (m.empty && !m.dozing && m.charge >= settings[1] / 2) m.empty = false;
            }
            for (int wire = 0; wire < 6; wire++) high[wire] = low[wire] ? 0 : high[wire] == 999 ? 999 : high[wire] + 1;
            beats++;
            return ended;
        }

        int waiting(int wire) {
            int words = 0;
            for (Member m : members) for (Word w : m.words) if (wire < 0 || w.wire == wire) words++;
            return words;
        }

        int set(int setting, int value) {
            int[][] range = {{1, 20}, {2, 99}, {0, 9}, {0, 9}, {1, 9}};
            if (setting < 0 || setting > 4 || value < range[setting][0] || value > range[setting][1]) return BAD_VALUE;
            int old = settings[setting];
            settings[setting] = value;
            for (Member m : members) if (m.charge > settings[1]) m.charge = settings[1];
            return old;
        }

        int station(int wires) {
            if (wires < 1 || wires > 63) return BAD_VALUE;
            if (members.size() == 8) return TOO_MANY;
            Member m = new Member();
            m.name = members.size();
            m.wires = wires;
            m.charge = settings[1];
            members.add(m);
            return m.name;
        }

        int word(int station, int wire, int number) {
            Member m = member(station);
            if (m == null || wire < 0 || wire > 5) return NO_SUCH;
            if (number < 0 || number > 255) return BAD_VALUE;
            if (!m.at(wire)) return NOT_POSSIBLE;
            if (m.words.size() == 4) return TOO_MANY;
            Word w = new Word();
            w.number = number;
            w.wire = wire;
            m.words.add(w);
            return m.words.size();
        }

        int forget(int station) {
            Member m = member(station);
            if (m == null) return NO_SUCH;
            if (m.words.isEmpty()) return NOT_POSSIBLE;
            quiet(m);
            return m.words.remove(0).number;
        }

        int stick(int wire) {
            if (wire < 0 || wire > 5) return NO_SUCH;
            fault[wire] = !fault[wire];
            return fault[wire] ? 1 : 0;
        }

        int doze(int station) {
            Member m = member(station);
            if (m == null) return NO_SUCH;
            m.dozing = !m.dozing;
            if (m.dozing && m.spoken != null) giveUp(m);
            return m.dozing ? 1 : 0;
        }

        int pass(int count) {
            if (count < 1 || count > 999) return BAD_VALUE;
            if (beats + count > 99999) return NOT_POSSIBLE;
            int words = 0;
            for (int i = 0; i < count; i++) words += beat();
            return words;
        }
    }

    private int change(IntSupplier call) {
        State before = state.copy();
        int answer = call.getAsInt();
        if (answer >= 0) {
            history.addLast(before);
            if (history.size() > 6) history.removeFirst();
        }
        return answer;
    }

    int set(int setting, int value) {
        return change(() -> state.set(setting, value));
    }

    int station(int wires) {
        return change(() -> state.station(wires));
    }

    int word(int station, int wire, int number) {
        return change(() -> state.word(station, wire, number));
    }

    int forget(int station) {
        return change(() -> state.forget(station));
    }

    int stick(int wire) {
        return change(() -> state.stick(wire));
    }

    int doze(int station) {
        return change(() -> state.doze(station));
    }

    int pass(int beats) {
        return change(() -> state.pass(beats));
    }

    int ofWire(int wire, int what) {
        if (wire < 0 || wire > 5) return NO_SUCH;
        if (what < 0 || what > 6) return BAD_VALUE;
        int at = 0, speaking = 0;
        for (Member m : state.members) {
            if (m.at(wire)) at += 1 << m.name;
            if (m.spoken != null && m.words.get(0).wire == wire) speaking += 1 << m.name;
        }
        return new int[] {state.high[wire], state.fault[wire] ? 1 : 0, at, speaking, state.waiting(wire), state.heard[wire],
            state.lost[wire]}[what];
    }

    int of(int station, int what) {
        Member m = state.member(station);
        if (m == null) return NO_SUCH;
        if (what < 0 || what > 9) return BAD_VALUE;
        int listeners = 0;
        for (int l : m.listeners) listeners += 1 << l;
        return new int[] {m.wires, m.charge, m.dozing ? 2 : m.empty ? 1 : 0, m.words.size(), m.spoken == null ? NONE : m.said,
            listeners, m.heardOf, m.lost, m.heardBy, m.gaveUp}[what];
    }

    int row(int station, int rank, int what) {
        Member m = state.member(station);
        if (m == null || rank < 0 || rank >= m.words.size()) return NO_SUCH;
        if (what < 0 || what > 2) return BAD_VALUE;
        Word w = m.words.get(rank);
        return what == 0 ? w.number : what == 1 ? w.wire : w.tries;
    }

    int heard(int station, int rank, int what) {
        Member m = state.member(station);
        if (m == null || rank < 0 || rank > 3 || rank >= m.known.size()) return NO_SUCH;
        if (what < 0 || what > 3) return BAD_VALUE;
        Known k = m.known.get(rank);
        return new int[] {k.number, k.speaker, k.wire, k.beat}[what];
    }

    int count(int what) {
        int speaking = 0, awake = 0, heard = 0, lost = 0, gaveUp = 0, faults = 0, charge = 0;
        for (Member m : state.members) {
            if (m.spoken != null) speaking |= 1 << m.name;
            if (m.awake()) awake |= 1 << m.name;
            gaveUp += m.gaveUp;
            charge += m.charge;
        }
        for (int wire = 0; wire < 6; wire++) {
            heard += state.heard[wire];
            lost += state.lost[wire];
            if (state.fault[wire]) faults |= 1 << wire;
        }
        if (what < 0 || what > 16) return BAD_VALUE;
        int[] s = state.settings;
        return new int[] {state.beats, state.members.size(), speaking, awake, state.waiting(-1), heard, lost, gaveUp, faults, charge,
            s[0], s[1], s[2], s[3], s[4], pad.length(), history.size()}[what];
    }

    int why(int station) {
        Member m = state.member(station);
        if (m == null) return NO_SUCH;
        if (m.spoken != null) return 1;
        if (m.dozing) return 2;
        if (m.empty) return 3;
        if (m.words.isEmpty()) return 4;
        int wire = m.words.get(0).wire;
        if (state.high[wire] >= state.settings[0]) return 0;
        return state.fault[wire] ? 5 : 6;
    }

    int endsIn(int station, int what) {
        Member m = state.member(station);
        if (m == null) return NO_SUCH;
        if (what != 0 && what != 1) return BAD_VALUE;
        if (m.words.isEmpty()) return NOT_POSSIBLE;
        State later = state.copy();
        Member n = later.members.get(station);
        Word first = n.words.get(0);
        int heardBefore = n.heardOf;
        for (int beats = 1; beats <= 600; beats++) {
            later.beat();
            if (!n.words.contains(first)) return what == 0 ? beats : n.heardOf > heardBefore ? 1 : 2;
        }
        return NONE;
    }

    int quietIn() {
        State later = state.copy();
        int beats = 0;
        while (later.waiting(-1) > 0) {
            if (beats == 900) return NONE;
            later.beat();
            beats++;
        }
        return beats;
    }

    int bestRest(int beats, int what) {
        if (beats < 1 || beats > 200 || what < 0 || what > 1) return BAD_VALUE;
        int most = -1, best = 0;
        for (int rest = 20; rest >= 1; rest--) {
            State later = state.copy();
            later.settings[0] = rest;
            int words = 0;
            for (int i = 0; i < beats; i++) words += later.beat();
            if (words > most) {
                most = words;
                best = rest;
            }
        }
        return what == 0 ? best : most;
    }

    int busiest() {
        int best = NONE;
        for (int wire = 5; wire >= 0; wire--) {
            if (state.waiting(wire) > 0 && (best == NONE || state.waiting(wire) >= state.waiting(best))) best = wire;
        }
        return best;
    }

    int sleepsIn(int station) {
        if (state.member(station) == null) return NO_SUCH;
        State later = state.copy();
        for (int beats = 0; beats <= 600; beats++) {
            if (later.members.get(station).empty) return beats;
            later.beat();
        }
        return NONE;
    }

    int put(long characters) {
        StringBuilder found = new StringBuilder();
        boolean over = false;
        for (int i = 0; i < 8; i++) {
            int code = (int) (characters >>> 8 * i) & 255;
            if (code == 0) {
                over = true;
            } else if (over || code < 33 || code > 126) {
                return BAD_VALUE;
            } else {
                found.insert(0, (char) code);
            }
        }
        if (found.length() == 0) return BAD_VALUE;
        if (pad.length() + found.length() > 80) return TOO_MANY;
        pad += found;
        return pad.length();
    }

    int wipe() {
        int before = pad.length();
        pad = "";
        return before;
    }

    int fault() {
        for (int end = 1; end <= pad.length(); end++) {
            if (!canGoOn(pad.substring(0, end))) return end - 1;
        }
        return PLAN.matcher(pad).matches() ? NONE : pad.length();
    }

    /** Whether some text without a fault begins so. */
    private static boolean canGoOn(String text) {
        Matcher matcher = PLAN.matcher(text);
        if (!matcher.matches() && !matcher.hitEnd()) return false;
        for (String order : text.split(";")) {
            if (order.startsWith("s") && order.chars().distinct().count() < order.length()) return false;
        }
        return true;
    }

    int carryOut() {
        if (fault() != NONE) return BAD_TEXT;
        return change(() -> {
            int done = 0;
            for (String order : pad.split(";")) {
                if (carry(order) < 0) break;
                done++;
            }
            pad = "";
            return done;
        });
    }

    private int carry(String order) {
        String rest = order.substring(1);
        switch (order.charAt(0)) {
            case 's': return state.station(rest.chars().map(wire -> 1 << wire - 'a').sum());
            case 'w': return state.word(rest.charAt(0) - '0', rest.charAt(1) - 'a', Integer.parseInt(rest.substring(3)));
            case '!': return state.stick(rest.charAt(0) - 'a');
            case 'z': return state.doze(Integer.parseInt(rest));
            default: return state.pass(Integer.parseInt(rest));
        }
    }

    int undo() {
        if (history.isEmpty()) return NOT_POSSIBLE;
        state = history.removeLast();
        return history.size();
    }

    int save(int slot) {
        if (slot != 0 && slot != 1) return BAD_VALUE;
        slots[slot] = state.copy();
        return state.members.size();
    }

    int restore(int slot) {
        if (slot != 0 && slot != 1) return BAD_VALUE;
        if (slots[slot] == null) return NOT_POSSIBLE;
        return change(() -> {
            state = slots[slot].copy();
            return state.members.size();
        });
    }
}
