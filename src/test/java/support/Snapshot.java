/** What an object answers, in one text: two of them are the same if nothing was changed. */
final class Snapshot {
    private Snapshot() {
    }

    /** Some 30 calls, and 25 more for each piece: an object has 512 of them. */
    static String of(CableChart x) {
        StringBuilder text = new StringBuilder("error at " + x.errorAt());
        for (int what = 0; what < 7; what++) {
            text.append(", count ").append(x.count(what));
        }
        text.append(", mean ").append(x.mean()).append(", digest ").append(x.digest());
        for (int piece = 0; piece < x.count(1); piece++) {
            text.append(", needs ").append(x.needs(piece));
            for (int what = 0; what < 4; what++) {
                text.append(", would ").append(x.would(piece, 7, what));
            }
            for (int a = 0; a < 4; a++) {
                for (int b = 0; b < 4; b++) {
                    text.append(", crosses ").append(x.crosses(piece, a, b));
                }
            }
        }
        for (int chart = 0; chart < x.count(0); chart++) {
            text.append(", fits ").append(x.fits(chart, 7));
        }
        return text.toString();
    }
}
