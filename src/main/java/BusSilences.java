/**
 * A bus of wires on which silence is the word. What each method answers is promised in the
 * document; the states are made once, in the constructors, and no call but save makes an object.
 */
public final class BusSilences {
    public static final int NO_SUCH = -1, BAD_VALUE = -2, BAD_TEXT = -3, TOO_MANY = -4, NOT_POSSIBLE = -5, NONE = -6;
    public static final int REST = 0, FULL = 1, LOAD = 2, FEED = 3, TRIES = 4;

    private static final int[] LOWEST = {1, 2, 0, 0, 1};
    private static final int[] GREATEST = {20, 99, 9, 9, 9};
    private static final int[] AT_FIRST = {3, 40, 1, 1, 4};
    private static final int SETTINGS = 5, WIRES = 6, ALL_WIRES = 63, STATIONS = 8;
    private static final int ROW_LENGTH = 4, GREATEST_WORD = 255, WORD_BITS = 8, LAST_BEAT = 10, SILENT = -1;
    private static final int LATEST_KEPT = 4, LATEST_FACTS = 4;
    private static final int LONGEST_HIGH = 999, MOST_BEATS = 99999, LONGEST_PASS = 999;
    private static final int ENDS_WITHIN = 600, QUIET_WITHIN = 900, SLEEPS_WITHIN = 600, LONGEST_BEST = 200;
    private static final int PAD_LENGTH = 80, MOST_CHARACTERS = 8, FIRST_CODE = 33, LAST_CODE = 126, GREATEST_NUMBER = 999;
    private static final int CHANGES_KEPT = 6, SLOTS = 2;

    private final Bus now = new Bus();
    private final Bus trial = new Bus();
    private final History history = new History();
    private final Bus[] slots = new Bus[SLOTS];
    private final Pad pad = new Pad();
    private final Reader reader = new Reader(pad);

    public BusSilences() {
    }

    // ---- changes

    public int set(int setting, int value) {
        history.prepare(now);
        return history.keep(now.changeSetting(setting, value));
    }

    public int station(int wires) {
        history.prepare(now);
        return history.keep(now.addStation(wires));
    }

    public int word(int station, int wire, int number) {
        history.prepare(now);
        return history.keep(now.addWord(station, wire, number));
    }

    public int forget(int station) {
        history.prepare(now);
        return history.keep(now.forgetWord(station));
    }

    public int stick(int wire) {
        history.prepare(now);
        return history.keep(now.toggleFault(wire));
    }

    public int doze(int station) {
        history.prepare(now);
        return history.keep(now.toggleDoze(station));
    }

    public int pass(int beats) {
        history.prepare(now);
        return history.keep(now.passBeats(beats));
    }

    // ---- what there is

    public int ofWire(int wire, int what) {
        if (!isWire(wire)) return NO_SUCH;
        switch (what) {
            case 0: return now.highFor[wire];
            case 1: return now.hasFault(wire) ? 1 : 0;
            case 2: return now.stationsAt(wire);
            case 3: return now.speakersOn(1 << wire);
            case 4: return now.waitingFor(wire);
            case 5: return now.heardOn[wire];
            case 6: return now.lostOn[wire];
            default: return BAD_VALUE;
        }
    }

    public int of(int station, int what) {
        Station asked = now.find(station);
        return asked == null ? NO_SUCH : asked.fact(what);
    }

    public int row(int station, int rank, int what) {
        Station asked = now.find(station);
        if (asked == null || !asked.row.has(rank)) return NO_SUCH;
        switch (what) {
            case 0: return asked.row.numberAt(rank);
            case 1: return asked.row.wireAt(rank);
            case 2: return asked.row.triesAt(rank);
            default: return BAD_VALUE;
        }
    }

    public int heard(int station, int rank, int what) {
        Station asked = now.find(station);
        if (asked == null || !asked.latest.has(rank)) return NO_SUCH;
        return asked.latest.fact(rank, what);
    }

    public int count(int what) {
        switch (what) {
            case 0: return now.beats;
            case 1: return now.arrived;
            case 2: return now.speakersOn(ALL_WIRES);
            case 3: return now.awakeStations();
            case 4: return now.sumOf(3);
            case 5: return now.sumOf(6);
            case 6: return now.sumOf(7);
            case 7: return now.sumOf(9);
            case 8: return now.faults;
            case 9: return now.sumOf(1);
            case 10: case 11: case 12: case 13: case 14: return now.settings[what - 10];
            case 15: return pad.length;
            case 16: return history.length;
            default: return BAD_VALUE;
        }
    }

    // ---- what if; nothing changes

    public int why(int station) {
        Station asked = now.find(station);
        if (asked == null) return NO_SUCH;
        if (asked.isSpeaking()) return 1;
        if (asked.dozing) return 2;
        if (asked.asleep) return 3;
        if (asked.row.length == 0) return 4;
        int wire = asked.row.wireAt(0);
        if (now.isRested(wire)) return 0;
        return now.hasFault(wire) ? 5 : 6;
    }

    public int endsIn(int station, int what) {
        Station before = now.find(station);
        if (before == null) return NO_SUCH;
        if (what < 0 || what > 1) return BAD_VALUE;
        if (before.row.length == 0) return NOT_POSSIBLE;
        trial.copyFrom(now);
        Station after = trial.find(station);
        if (after == null) return NO_SUCH;
        for (int beats = 1; beats <= ENDS_WITHIN; beats++) {
            trial.passBeat();
            if (after.wordsHeard != before.wordsHeard) return what == 0 ? beats : 1;
            if (after.wordsLost != before.wordsLost) return what == 0 ? beats : 2;
        }
        return NONE;
    }

    public int quietIn() {
        trial.copyFrom(now);
        for (int beats = 0; beats <= QUIET_WITHIN; beats++) {
            if (!trial.hasWords()) return beats;
            trial.passBeat();
        }
        return NONE;
    }

    public int bestRest(int beats, int what) {
        if (beats < 1 || beats > LONGEST_BEST || what < 0 || what > 1) return BAD_VALUE;
        int best = LOWEST[REST];
        int most = 0;
        for (int rest = LOWEST[REST]; rest <= GREATEST[REST]; rest++) {
            int words = heardWithRest(rest, beats);
            if (words >= most) {
                best = rest;
                most = words;
            }
        }
        return what == 0 ? best : most;
    }

    private int heardWithRest(int rest, int beats) {
        trial.copyFrom(now);
        trial.changeSetting(REST, rest);
        int words = 0;
        for (int beat = 0; beat < beats && trial.hasWords(); beat++) words += trial.passBeat();
        return words;
    }

    public int busiest() {
        int busiest = NONE;
        int most = 0;
        for (int wire = 0; wire < WIRES; wire++) {
            int words = now.waitingFor(wire);
            if (words > most) {
                busiest = wire;
                most = words;
            }
        }
        return busiest;
    }

    public int sleepsIn(int station) {
        trial.copyFrom(now);
        Station asked = trial.find(station);
        if (asked == null) return NO_SUCH;
        for (int beats = 0; beats <= SLEEPS_WITHIN; beats++) {
            if (asked.asleep) return beats;
            trial.passBeat();
        }
        return NONE;
    }

    // ---- texts

    public int put(long characters) {
        return pad.append(characters);
    }

    public int wipe() {
        return pad.clear();
    }

    public int fault() {
        return reader.findFault();
    }

    public int carryOut() {
        if (reader.findFault() != NONE) return BAD_TEXT;
        history.prepare(now);
        int carried = 0;
        reader.at = 0;
        while (carried < PAD_LENGTH && reader.readOrder() && carryOrder() >= 0) {
            carried++;
            // Past the ";" or the end: a text without a fault has nothing else behind an order.
            reader.at++;
        }
        pad.clear();
        return history.keep(carried);
    }

    /** Goes past the face's methods, for an order records nothing by itself. */
    private int carryOrder() {
        switch (reader.kind) {
            case 's': return now.addStation(reader.wires);
            case 'w': return now.addWord(reader.station, reader.wire, reader.number);
            case '!': return now.toggleFault(reader.wire);
            case 'z': return now.toggleDoze(reader.station);
            case 'b': return now.passBeats(reader.number);
            default: return BAD_TEXT;
        }
    }

    // ---- undo, saving

    public int undo() {
        return history.takeBack(now);
    }

    public int save(int slot) {
        if (!isSlot(slot)) return BAD_VALUE;
        if (slots[slot] == null) slots[slot] = new Bus();
        slots[slot].copyFrom(now);
        return now.arrived;
    }

    public int restore(int slot) {
        if (!isSlot(slot)) return BAD_VALUE;
        Bus saved = slots[slot];
        if (saved == null) return NOT_POSSIBLE;
        history.prepare(now);
        now.copyFrom(saved);
        return history.keep(now.arrived);
    }

    private static boolean isSlot(int slot) {
        return slot >= 0 && slot < SLOTS;
    }

    private static boolean isWire(int wire) {
        return wire >= 0 && wire < WIRES;
    }

    private static void copyNumbers(int[] from, int[] to) {
        System.arraycopy(from, 0, to, 0, Math.min(from.length, to.length));
    }

    /** All that undo and the slots give back. Its changes answer as the face's methods do. */
    private static final class Bus {
        final int[] settings = AT_FIRST.clone();
        final int[] highFor = new int[WIRES];
        final int[] heardOn = new int[WIRES];
        final int[] lostOn = new int[WIRES];
        /** All of them are there from the start; those from arrived on are as they were made. */
        final Station[] stations = new Station[STATIONS];
        int arrived;
        int faults;
        int beats;

        Bus() {
            for (int name = 0; name < STATIONS; name++) stations[name] = new Station(name);
        }

        void copyFrom(Bus other) {
            copyNumbers(other.settings, settings);
            copyNumbers(other.highFor, highFor);
            copyNumbers(other.heardOn, heardOn);
            copyNumbers(other.lostOn, lostOn);
            for (int name = 0; name < STATIONS; name++) stations[name].copyFrom(other.stations[name]);
            arrived = other.arrived;
            faults = other.faults;
            beats = other.beats;
        }

        /** null if there is no such station. */
        Station find(int station) {
            return station >= 0 && station < arrived && station < STATIONS ? stations[station] : null;
        }

        // the changes

        int changeSetting(int setting, int value) {
            if (setting < 0 || setting >= SETTINGS) return BAD_VALUE;
            if (value < LOWEST[setting] || value > GREATEST[setting]) return BAD_VALUE;
            int before = settings[setting];
            settings[setting] = value;
            if (setting == FULL) loseChargeAbove(value);
            return before;
        }

        private void loseChargeAbove(int full) {
            for (int name = 0; name < arrived; name++) {
                stations[name].charge = Math.min(stations[name].charge, full);
            }
        }

        int addStation(int wires) {
            if (wires < 1 || wires > ALL_WIRES) return BAD_VALUE;
            if (arrived >= STATIONS) return TOO_MANY;
            stations[arrived].wires = wires;
            stations[arrived].charge = settings[FULL];
            arrived++;
            return arrived - 1;
        }

        int addWord(int station, int wire, int number) {
            Station speaker = find(station);
            if (speaker == null || !isWire(wire)) return NO_SUCH;
            if (number < 0 || number > GREATEST_WORD) return BAD_VALUE;
            if (!speaker.isAt(wire)) return NOT_POSSIBLE;
            if (speaker.row.length >= ROW_LENGTH) return TOO_MANY;
            speaker.row.add(number, wire);
            return speaker.row.length;
        }

        int forgetWord(int station) {
            Station speaker = find(station);
            if (speaker == null) return NO_SUCH;
            if (speaker.row.length == 0) return NOT_POSSIBLE;
            int number = speaker.row.numberAt(0);
            speaker.row.dropFirst();
            speaker.fallSilent();
            return number;
        }

        int toggleFault(int wire) {
            if (!isWire(wire)) return NO_SUCH;
            faults ^= 1 << wire;
            return hasFault(wire) ? 1 : 0;
        }

        int toggleDoze(int station) {
            Station sleeper = find(station);
            if (sleeper == null) return NO_SUCH;
            sleeper.dozing = !sleeper.dozing;
            if (sleeper.dozing && sleeper.isSpeaking()) giveUp(sleeper);
            return sleeper.dozing ? 1 : 0;
        }

        int passBeats(int count) {
            if (count < 1 || count > LONGEST_PASS) return BAD_VALUE;
            if (beats + count > MOST_BEATS) return NOT_POSSIBLE;
            int words = 0;
            for (int beat = 0; beat < count; beat++) words += passBeat();
            return words;
        }

        // a beat, in the order of the document

        /** Returns how many words are heard in it. */
        int passBeat() {
            int awake = awakeStations();
            beginWords(awake);
            int high = ALL_WIRES & ~(faults | pulledWires());
            int words = goOnSpeaking(high, awake);
            changeCharges(high);
            restWires(high);
            beats++;
            return words;
        }

        private void beginWords(int awake) {
            for (int name = 0; name < arrived; name++) {
                Station speaker = stations[name];
                if (!speaker.isAwake() || speaker.isSpeaking()) continue;
                int wire = speaker.row.wireAt(0);
                if (isRested(wire)) speaker.begin(wire, awake & stationsAt(wire));
            }
        }

        private int pulledWires() {
            int pulled = 0;
            for (int name = 0; name < arrived; name++) {
                if (stations[name].isSpeaking() && !stations[name].letsGo()) pulled |= stations[name].wireSpokenOn;
            }
            return pulled;
        }

        private int goOnSpeaking(int high, int awake) {
            int words = 0;
            for (int name = 0; name < arrived; name++) {
                Station speaker = stations[name];
                if (!speaker.isSpeaking()) continue;
                if (speaker.letsGo() && (speaker.wireSpokenOn & high) == 0) {
                    giveUp(speaker);
                } else if (speaker.nextBeat < LAST_BEAT) {
                    speaker.nextBeat++;
                } else if ((speaker.listeners & ~awake) == 0) {
                    beHeard(speaker);
                    words++;
                } else {
                    giveUp(speaker);
                }
            }
            return words;
        }

        private void beHeard(Station speaker) {
            int number = speaker.row.numberAt(0);
            int wire = speaker.row.wireAt(0);
            int hearers = speaker.listeners & ~(1 << speaker.name);
            for (int name = 0; name < arrived; name++) {
                if ((hearers >> name & 1) == 0) continue;
                stations[name].latest.add(number, speaker.name, wire, beats);
                stations[name].hearings++;
            }
            speaker.wordsHeard++;
            if (isWire(wire)) heardOn[wire]++;
            speaker.row.dropFirst();
            speaker.fallSilent();
        }

        private void giveUp(Station speaker) {
            int wire = speaker.row.wireAt(0);
            speaker.fallSilent();
            speaker.timesGivenUp++;
            if (speaker.row.tryFirst() < settings[TRIES]) return;
            speaker.row.dropFirst();
            speaker.wordsLost++;
            if (isWire(wire)) lostOn[wire]++;
        }

        private void changeCharges(int high) {
            int full = settings[FULL];
            for (int name = 0; name < arrived; name++) {
                Station fed = stations[name];
                int used = fed.isAwake() ? settings[LOAD] : 0;
                int charge = fed.charge + settings[FEED] * Integer.bitCount(fed.wires & high) - used;
                fed.charge = Math.max(0, Math.min(charge, full));
                if (charge < 0) {
                    fed.asleep = true;
                    if (fed.isSpeaking()) giveUp(fed);
                }
                if (fed.asleep && !fed.dozing && fed.charge >= full / 2) fed.asleep = false;
            }
        }

        private void restWires(int high) {
            for (int wire = 0; wire < WIRES; wire++) {
                highFor[wire] = (high >> wire & 1) == 1 ? Math.min(highFor[wire] + 1, LONGEST_HIGH) : 0;
            }
        }

        // what there is

        boolean isRested(int wire) {
            return isWire(wire) && highFor[wire] >= settings[REST];
        }

        boolean hasFault(int wire) {
            return isWire(wire) && (faults >> wire & 1) == 1;
        }

        int stationsAt(int wire) {
            int found = 0;
            for (int name = 0; name < arrived; name++) {
                if (stations[name].isAt(wire)) found |= 1 << name;
            }
            return found;
        }

        int speakersOn(int wires) {
            int found = 0;
            for (int name = 0; name < arrived; name++) {
                if ((stations[name].wireSpokenOn & wires) != 0) found |= 1 << name;
            }
            return found;
        }

        int awakeStations() {
            int found = 0;
            for (int name = 0; name < arrived; name++) {
                if (stations[name].isAwake()) found |= 1 << name;
            }
            return found;
        }

        boolean hasWords() {
            for (int name = 0; name < arrived; name++) {
                if (stations[name].row.length > 0) return true;
            }
            return false;
        }

        int waitingFor(int wire) {
            int words = 0;
            for (int name = 0; name < arrived; name++) words += stations[name].row.countFor(wire);
            return words;
        }

        /** The sum of a fact that each station tells. */
        int sumOf(int what) {
            int sum = 0;
            for (int name = 0; name < arrived; name++) sum += stations[name].fact(what);
            return sum;
        }
    }

    private static final class Station {
        final int name;
        final Row row = new Row();
        final Latest latest = new Latest();
        int wires;
        int charge;
        boolean asleep;
        boolean dozing;
        int nextBeat = SILENT;
        /** As a set, so that it is empty in one that does not speak. */
        int wireSpokenOn;
        int spokenBits;
        int listeners;
        int wordsHeard;
        int wordsLost;
        int hearings;
        int timesGivenUp;

        Station(int name) {
            this.name = name;
        }

        void copyFrom(Station other) {
            row.copyFrom(other.row);
            latest.copyFrom(other.latest);
            wires = other.wires;
            charge = other.charge;
            asleep = other.asleep;
            dozing = other.dozing;
            nextBeat = other.nextBeat;
            wireSpokenOn = other.wireSpokenOn;
            spokenBits = other.spokenBits;
            listeners = other.listeners;
            wordsHeard = other.wordsHeard;
            wordsLost = other.wordsLost;
            hearings = other.hearings;
            timesGivenUp = other.timesGivenUp;
        }

        boolean isAt(int wire) {
            return (wires >> wire & 1) == 1;
        }

        boolean isAwake() {
            return !asleep && !dozing;
        }

        boolean isSpeaking() {
            return nextBeat != SILENT;
        }

        /** Whether the bit of this beat is 1; asked only of one that speaks. */
        boolean letsGo() {
            return (spokenBits >> LAST_BEAT - nextBeat & 1) == 1;
        }

        void begin(int wire, int heardBy) {
            nextBeat = 0;
            wireSpokenOn = 1 << wire;
            spokenBits = name << WORD_BITS | row.numberAt(0);
            listeners = heardBy;
        }

        void fallSilent() {
            nextBeat = SILENT;
            wireSpokenOn = 0;
            spokenBits = 0;
            listeners = 0;
        }

        int fact(int what) {
            switch (what) {
                case 0: return wires;
                case 1: return charge;
                case 2: return dozing ? 2 : asleep ? 1 : 0;
                case 3: return row.length;
                case 4: return isSpeaking() ? nextBeat : NONE;
                case 5: return listeners;
                case 6: return wordsHeard;
                case 7: return wordsLost;
                case 8: return hearings;
                case 9: return timesGivenUp;
                default: return BAD_VALUE;
            }
        }
    }

    /** The words that a station has to speak, the first one at rank 0; behind the last one all is NONE. */
    private static final class Row {
        final int[] numbers = new int[ROW_LENGTH];
        final int[] wires = new int[ROW_LENGTH];
        final int[] tries = new int[ROW_LENGTH];
        int length;

        void copyFrom(Row other) {
            copyNumbers(other.numbers, numbers);
            copyNumbers(other.wires, wires);
            copyNumbers(other.tries, tries);
            length = other.length;
        }

        boolean has(int rank) {
            return rank >= 0 && rank < length && rank < ROW_LENGTH;
        }

        int numberAt(int rank) {
            return has(rank) ? numbers[rank] : NONE;
        }

        int wireAt(int rank) {
            return has(rank) ? wires[rank] : NONE;
        }

        int triesAt(int rank) {
            return has(rank) ? tries[rank] : NONE;
        }

        int countFor(int wire) {
            int found = 0;
            for (int rank = 0; rank < length; rank++) {
                if (wireAt(rank) == wire) found++;
            }
            return found;
        }

        void add(int number, int wire) {
            if (length >= ROW_LENGTH) return;
            numbers[length] = number;
            wires[length] = wire;
            tries[length] = 0;
            length++;
        }

        int tryFirst() {
            if (length == 0) return 0;
            tries[0]++;
            return tries[0];
        }

        void dropFirst() {
            if (length == 0) return;
            for (int rank = 1; rank < length; rank++) {
                numbers[rank - 1] = numbers[rank];
                wires[rank - 1] = wires[rank];
                tries[rank - 1] = tries[rank];
            }
            length--;
        }
    }

    /** The latest words that a station heard, the latest at rank 0; their facts stand in one array. */
    private static final class Latest {
        final int[] facts = new int[LATEST_KEPT * LATEST_FACTS];
        int length;

        void copyFrom(Latest other) {
            copyNumbers(other.facts, facts);
            length = other.length;
        }

        boolean has(int rank) {
            return rank >= 0 && rank < length && rank < LATEST_KEPT;
        }

        int fact(int rank, int what) {
            if (!has(rank)) return NO_SUCH;
            if (what < 0 || what >= LATEST_FACTS) return BAD_VALUE;
            return facts[rank * LATEST_FACTS + what];
        }

        void add(int number, int speaker, int wire, int beat) {
            System.arraycopy(facts, 0, facts, LATEST_FACTS, (LATEST_KEPT - 1) * LATEST_FACTS);
            facts[0] = number;
            facts[1] = speaker;
            facts[2] = wire;
            facts[3] = beat;
            length = Math.min(length + 1, LATEST_KEPT);
        }
    }

    private static final class Pad {
        final char[] text = new char[PAD_LENGTH];
        int length;

        int append(long characters) {
            int added = charactersIn(characters);
            if (added == 0) return BAD_VALUE;
            if (length + added > PAD_LENGTH) return TOO_MANY;
            long rest = characters;
            for (int place = length + added - 1; place >= length; place--) {
                text[place] = (char) (rest & 255);
                rest >>>= 8;
            }
            length += added;
            return length;
        }

        /** 0 if one of them is none that the pad takes; a gap of 8 bits shows as the code 0. */
        private static int charactersIn(long characters) {
            int found = 0;
            for (long rest = characters; rest != 0 && found < MOST_CHARACTERS; rest >>>= 8) {
                long code = rest & 255;
                if (code < FIRST_CODE || code > LAST_CODE) return 0;
                found++;
            }
            return found;
        }

        int clear() {
            int before = length;
            length = 0;
            return before;
        }

        /** 0, which no character of the pad is, behind the last one. */
        int codeAt(int place) {
            return place >= 0 && place < length && place < PAD_LENGTH ? text[place] : 0;
        }
    }

    /**
     * Reads the pad order by order. A character is left behind only if it can stand at its place,
     * so where reading ends is the fault.
     */
    private static final class Reader {
        final Pad pad;
        int at;
        int kind;
        int station;
        int wire;
        int wires;
        int number;

        Reader(Pad pad) {
            this.pad = pad;
        }

        int findFault() {
            at = 0;
            for (int orders = 0; orders < PAD_LENGTH && readOrder(); orders++) {
                if (at >= pad.length) return NONE;
                if (pad.codeAt(at) != ';') return at;
                at++;
            }
            return at;
        }

        boolean readOrder() {
            kind = pad.codeAt(at);
            switch (kind) {
                case 's': return readSign('s') && readWires();
                case 'w': return readSign('w') && readStation() && readWire() && readSign('=') && readNumber();
                case '!': return readSign('!') && readWire();
                case 'z': return readSign('z') && readStation();
                case 'b': return readSign('b') && readNumber();
                default: return false;
            }
        }

        private boolean readSign(char sign) {
            if (pad.codeAt(at) != sign) return false;
            at++;
            return true;
        }

        private boolean readWire() {
            wire = pad.codeAt(at) - 'a';
            if (!isWire(wire)) return false;
            at++;
            return true;
        }

        private boolean readWires() {
            wires = 0;
            for (int read = 0; read < WIRES && isNewWire(pad.codeAt(at) - 'a'); read++) {
                readWire();
                wires |= 1 << wire;
            }
            return wires != 0;
        }

        private boolean isNewWire(int asked) {
            return isWire(asked) && (wires >> asked & 1) == 0;
        }

        private boolean readStation() {
            station = digitAt();
            if (station == NONE) return false;
            at++;
            return true;
        }

        private boolean readNumber() {
            number = digitAt();
            if (number == NONE) return false;
            at++;
            for (int read = 1; read < PAD_LENGTH && canGrowBy(digitAt()); read++) {
                number = number * 10 + digitAt();
                at++;
            }
            return true;
        }

        /** A 0 ahead of a digit would be a leading one. */
        private boolean canGrowBy(int digit) {
            return digit != NONE && number != 0 && number * 10 + digit <= GREATEST_NUMBER;
        }

        private int digitAt() {
            int digit = pad.codeAt(at) - '0';
            return digit >= 0 && digit <= 9 ? digit : NONE;
        }
    }

    /** Has one place more than it keeps: there the state waits ahead of a change that may yet fail. */
    private static final class History {
        final Bus[] states = new Bus[CHANGES_KEPT + 1];
        int next;
        int length;

        History() {
            for (int place = 0; place <= CHANGES_KEPT; place++) states[place] = new Bus();
        }

        void prepare(Bus before) {
            states[next].copyFrom(before);
        }

        /** Hands the answer of the change on; only an error is below 0. */
        int keep(int answer) {
            if (answer < 0) return answer;
            next = next < CHANGES_KEPT ? next + 1 : 0;
            length = Math.min(length + 1, CHANGES_KEPT);
            return answer;
        }

        int takeBack(Bus now) {
            if (length == 0) return NOT_POSSIBLE;
            next = next > 0 ? next - 1 : CHANGES_KEPT;
            now.copyFrom(states[next]);
            length--;
            return length;
        }
    }
}
