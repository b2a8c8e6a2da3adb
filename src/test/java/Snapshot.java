/** What an object tells of itself, as a text; objects that tell the same texts stand alike. */
final class Snapshot {
    private Snapshot() {
    }

    /** All that the calls under "what there is" tell of a bus, without the pad and the history. */
    static String of(BusSilences x) {
        StringBuilder all = new StringBuilder();
        for (int what = 0; what <= 14; what++) all.append(x.count(what)).append(' ');
        for (int wire = 0; wire < 6; wire++) {
            for (int what = 0; what <= 6; what++) all.append(x.ofWire(wire, what)).append(' ');
        }
        for (int station = 0; station < x.count(1); station++) {
            for (int what = 0; what <= 9; what++) all.append(x.of(station, what)).append(' ');
            for (int rank = 0; x.row(station, rank, 0) != BusSilences.NO_SUCH && rank < 9; rank++) {
                for (int what = 0; what <= 2; what++) all.append(x.row(station, rank, what)).append(' ');
            }
            for (int rank = 0; x.heard(station, rank, 0) != BusSilences.NO_SUCH && rank < 9; rank++) {
                for (int what = 0; what <= 3; what++) all.append(x.heard(station, rank, what)).append(' ');
            }
        }
        return all.toString();
    }

    /** Beside that what the pad and the history tell, and what would be. */
    static String whole(BusSilences x) {
        StringBuilder all = new StringBuilder(of(x));
        all.append("pad ").append(x.count(15)).append(" fault ").append(x.fault()).append(" changes ").append(x.count(16));
        for (int station = 0; station < x.count(1); station++) {
            all.append(' ').append(x.why(station)).append(' ').append(x.endsIn(station, 0)).append(' ').append(x.sleepsIn(station));
        }
        all.append(" what if ").append(x.quietIn()).append(' ').append(x.bestRest(40, 1)).append(' ').append(x.busiest());
        return all.toString();
    }
}
