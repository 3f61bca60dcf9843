/** Promises 19 to 22: needs, would, mean, digest. */
public final class WouldBeTest {
    private static final Checks CHECKS = new Checks("WouldBeTest");

    public static void main(String[] args) {
        leastStitches();
        whatWouldBe();
        nothingIsChanged();
        refusals();
        means();
        digests();
        CHECKS.finish();
    }

    private static void need(String rows, String works, int due) {
        CableChart x = Checks.taught("chart a " + rows + "; piece p cast 1 gauge 1 by 1 " + works
                + ";");
        CHECKS.same("needs of " + rows + ", " + works, x.needs(0), due);
        CHECKS.same("error behind needs", x.piece(0, 5), -1);
        CHECKS.same("cast behind needs", x.piece(0, 0), 1);
    }

    private static void leastStitches() {
        need("row knit rest", "work a", 1);
        need("row knit", "", 1);
        need("row knit 60", "work a", 60);
        need("row knit 60 slip", "work a", -1);
        need("row knit 7", "work a", 7);
        need("row knit 7 row knit 8", "work a", -1);
        need("row knit 7 row tog slip rest row knit 6", "work a", 7);
        need("row tog knit rest", "work a times 4", 5);
        need("row tog knit rest", "work a times 40", 41);
        need("row tog slip rest", "work a times 40 work a times 19", 60);
        need("row tog slip rest", "work a times 40 work a times 20", -1);
        need("row over slip rest", "work a times 40 work a times 19", 1);
        need("row over slip rest", "work a times 40 work a times 20", -1);
        need("row slip rest", "work a times 40 work a times 41", 1);
        need("row slip rest", "work a times 40 work a times 40 work a", -1);
        need("row slip rest", "work a times 40 work a times 40 work a when stitches < 60", 60);
        need("row knit 9", "work a when stitches < 13 or stitches > 14", 9);
        need("row knit 9", "work a when stitches < 9 or stitches = 9 and rows > 0", 9);
        need("row cable 3 front 4 knit rest", "work a times 2", 7);
    }

    private static void whatWouldBe() {
        CableChart x = Checks.taught("chart a row over knit rest row tog purl 4;"
                + "piece p cast 9 gauge 1 by 1 work a times 2;");
        int[][] due = {{0, 4, 5, 6 + 6 + 6 + 6}, {9, 1, 7, 7}, {8, 1, 5, 5}, {10, 0, 60, 0}};
        int[] stitches = {5, 6, 4, 60};
        for (int i = 0; i < 4; i++) {
            for (int what = 0; what < 4; what++) {
                CHECKS.same("would(0, " + stitches[i] + ", " + what + ")",
                        x.would(0, stitches[i], what), due[i][what]);
            }
        }
        CHECKS.same("the piece is not knit", x.piece(0, 5), -1);
        CHECKS.same("would(0, 1, 2)", x.would(0, 1, 2), 2);
    }

    private static void nothingIsChanged() {
        CableChart x = Checks.taught("chart a row cable 1 front 1 over slip rest;"
                + "piece p cast 3 gauge 4 by 5 work a times 3; piece q cast 8 gauge 1 by 1 work a"
                + " when done p;");
        x.knit(0);
        Checks.put(x, "chart");
        long digest = x.digest();
        CHECKS.same("would", x.would(0, 9, 0), 0);
        CHECKS.same("would", x.would(0, 60, 0), 10);
        CHECKS.same("would of q", x.would(1, 8, 1), 1);
        CHECKS.same("needs", x.needs(0), 2);
        CHECKS.same("fits", x.fits(0, 60), 0);
        CHECKS.same("digest", x.digest(), digest);
        CHECKS.same("front", x.front(0), 0);
        CHECKS.same("stitch", x.stitch(0, 3, 0, 1), 1);
    }

    private static void refusals() {
        CableChart x = Checks.taught("chart a row knit; piece p cast 3 gauge 4 by 5 work a;");
        for (int bad : new int[] {-1, 1, 4, Integer.MIN_VALUE, Integer.MAX_VALUE}) {
            CHECKS.noSuch("needs(" + bad + ")", () -> x.needs(bad));
            CHECKS.noSuch("would(" + bad + ", 1, 0)", () -> x.would(bad, 1, 0));
            CHECKS.noSuch("would(" + bad + ", 0, 9)", () -> x.would(bad, 0, 9));
        }
        for (int bad : new int[] {0, -1, 61, Integer.MIN_VALUE, Integer.MAX_VALUE}) {
            CHECKS.illegal("would(0, " + bad + ", 0)", () -> x.would(0, bad, 0));
        }
        for (int bad : new int[] {-1, 4, 5, Integer.MIN_VALUE, Integer.MAX_VALUE}) {
            CHECKS.illegal("would(0, 1, " + bad + ")", () -> x.would(0, 1, bad));
        }
    }

    private static void means() {
        CableChart x = Checks.taught("chart a row knit rest; chart b row slip rest;"
                + "piece p cast 5 gauge 1 by 1 work a times 2 work b;"
                + "piece q cast 8 gauge 1 by 1 work a; piece r cast 2 gauge 1 by 1;");
        CHECKS.same("mean without rows", x.mean(), 0.0);
        x.knit(2);
        CHECKS.same("mean of a cast on", x.mean(), 0.0);
        x.knit(0);
        CHECKS.same("mean of p", x.mean(), 10.0 / 3.0);
        x.knit(1);
        CHECKS.same("mean of p and q", x.mean(), 18.0 / 4.0);
        x.cast(0, 4);
        CHECKS.same("mean of q", x.mean(), 8.0);
    }

    private static long folded(long... numbers) {
        long d = 769;
        for (long number : numbers) {
            d = d * 31 + number;
        }
        return d;
    }

    private static void digests() {
        CableChart x = Checks.taught("chart a row cable 1 front 1 over row slip rest;"
                + "chart b row rep 30[rep 30[rep 30[rep 30[tog]]]];"
                + "piece p cast 2 gauge 3 by 40 work a; piece q cast 60 gauge 1 by 1 work b;");
        CHECKS.same("digest of unknit pieces", x.digest(), folded(2, 2, 0, 0, 0, 0, 0,
                2, 3, -1, -1, 1000000, 810000,
                2, 0, 0, 0, 0, -1, 0, 0, 0, -1,
                60, 0, 0, 0, 0, -1, 0, 0, 0, -1));
        x.knit(0);
        x.feed(1, 2, 3, 4, 5);
        CHECKS.same("digest", x.digest(), folded(2, 2, 1, 2, 5, 1, 20,
                2, 3, -1, -1, 1000000, 810000,
                2, 2, 3, 5, 1, 0, 3, 1, 5, 0,
                66, 0, 0, 0, 1, (30 - 3) * 10 / 3, 7, 1, 6, 0, 4, 2, 100, 3, 1, 3, 0, 3, 2,
                60, 0, 0, 0, 0, -1, 0, 0, 0, -1));
    }
}
