/** Ways to bring an object where several tests want it. */
final class Scenes {
    private Scenes() {
    }

    static BusSilences withStations(int... wires) {
        BusSilences x = new BusSilences();
        for (int set : wires) x.station(set);
        return x;
    }

    /** Puts a text, eight characters at a time, the rest last. */
    static void write(BusSilences x, String text) {
        for (int from = 0; from < text.length(); from += 8) {
            x.put(packed(text.substring(from, Math.min(from + 8, text.length()))));
        }
    }

    /** One to eight characters as the number that put takes. */
    static long packed(String characters) {
        long number = 0;
        for (int at = 0; at < characters.length(); at++) number = number << 8 | characters.charAt(at);
        return number;
    }

    /** Passes beats until a station speaks; twenty of rest are the most that it can need. */
    static void untilItSpeaks(BusSilences x, int station) {
        for (int beat = 0; beat <= 20 && x.of(station, 4) == BusSilences.NONE; beat++) x.pass(1);
    }

    /** A station that is awake and has a word speaks, and gives up as it is put to sleep; then it is awake again. */
    static void giveUpOnce(BusSilences x, int station) {
        untilItSpeaks(x, station);
        x.doze(station);
        x.doze(station);
    }

    /** Beats until 99999, the most, are reached but for some. */
    static void late(BusSilences x, int left) {
        for (int times = 0; times < 100; times++) x.pass(999);
        if (left < 99) x.pass(99 - left);
    }

    /** Eight stations with four words each for wire 0, none of which ever sleeps. */
    static BusSilences throng() {
        BusSilences x = withStations(1, 1, 1, 1, 1, 1, 1, 1);
        x.set(BusSilences.LOAD, 0);
        x.set(BusSilences.TRIES, 9);
        for (int word = 0; word < 32; word++) x.word(word / 4, 0, 0);
        return x;
    }

    /**
     * Station 0, at one wire only, falls asleep in each word until it has lost all three; then alone is the
     * word of station 1 heard, and no word waits any more: 978 beats from the beginning.
     */
    static BusSilences patient() {
        BusSilences x = new BusSilences();
        x.set(BusSilences.REST, 14);
        x.set(BusSilences.FULL, 99);
        x.set(BusSilences.LOAD, 6);
        x.set(BusSilences.FEED, 2);
        x.set(BusSilences.TRIES, 9);
        x.station(0b01);
        x.station(0b11);
        for (int word = 0; word < 3; word++) x.word(0, 0, 0);
        x.word(1, 0, 0);
        return x;
    }

    /** Two of three stations speak; there is something of every kind that a state holds. */
    static BusSilences busy() {
        BusSilences x = new BusSilences();
        x.set(BusSilences.TRIES, 2);
        x.station(0b11);
        x.station(0b01);
        x.station(0b110);
        for (int word = 0; word < 4; word++) x.word(0, 0, word * 50);
        x.word(1, 0, 5);
        x.word(2, 2, 129);
        x.pass(60);
        for (int word = 0; word < 3; word++) x.word(0, 0, word * 50);
        x.word(1, 0, 7);
        x.word(2, 2, 254);
        x.stick(3);
        x.pass(5);
        x.save(0);
        return x;
    }
}
