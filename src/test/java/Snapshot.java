/** All that the calls under "what there is" tell of a bus, without the pad and the history. */
final class Snapshot {
    private Snapshot() {
    }

    static String of(BusSilences x) {
        StringBuilder all = new StringBuilder();
        for (int what = 0; what <= 14; what++) all.append(x.count(what)).append(' ');
        for (int wire = 0; wire < 6; wire++) {
            for (int what = 0; what <= 6; what++) all.append(x.ofWire(wire, what)).append(' ');
        }
        for (int station = 0; station < x.count(1); station++) {
            for (int what = 0; what <= 9; what++) all.append(x.of(station, what)).append(' ');
            for (int rank = 0; rank < 4; rank++) {
                for (int what = 0; what <= 2; what++) all.append(x.row(station, rank, what)).append(' ');
                for (int what = 0; what <= 3; what++) all.append(x.heard(station, rank, what)).append(' ');
            }
        }
        return all.toString();
    }
}
