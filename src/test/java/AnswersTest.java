import java.math.BigInteger;
import java.util.ArrayList;
import java.util.List;

/** The edges that promises 7 to 22 name: what is returned at them, and each refused call. */
public final class AnswersTest {
    private static final Checks CHECKS = new Checks("AnswersTest");
    private static final int LEAST = Integer.MIN_VALUE;
    private static final int MOST = Integer.MAX_VALUE;

    public static void main(String[] args) {
        chartsEdges();
        chartsOfManyStitches();
        chartsWithARest();
        chartRefused();
        fitsEdges();
        fitsRefused();
        knitAnswers();
        knitFromTheBeginning();
        castEdges();
        castRefused();
        pieceEdges();
        stitchEdges();
        manyEdges();
        whereEdges();
        crossesEdges();
        crossesIn30Cables();
        wideEdges();
        highEdges();
        frontEdges();
        needsEdges();
        needsChangesNothing();
        wouldEdges();
        wouldRefused();
        meanEdges();
        digestEdges();
        digestWrapsAround();
        theFirstNamedException();
        nothingAtAll();
        CHECKS.finish();
    }

    /** Pieces 0 and 1 of two charts: the first one is knit, the second one is not. */
    private static CableChart twoPieces() {
        CableChart x = Checks.taught("chart a row cable 1 front 2 over slip rest row tog knit rest;"
                + "chart b row purl; piece p cast 4 gauge 3 by 4 work a times 2;"
                + "piece q cast 5 gauge 1 by 1 work b;");
        x.knit(0);
        return x;
    }

    private static int[] beyond(int length) {
        return new int[] {-1, length, length + 1, LEAST, MOST};
    }

    // Promise 7

    private static void chartsEdges() {
        StringBuilder text = new StringBuilder();
        for (int chart = 0; chart < 8; chart++) {
            text.append("chart c").append(chart);
            for (int row = 0; row < 12; row++) {
                text.append(" row knit ").append(chart * 7 + row % 5 + 1).append(row == 11 ? " over"
                        : "");
            }
            text.append(';');
        }
        CableChart x = Checks.taught(text.toString());
        for (int chart = 0; chart < 8; chart++) {
            for (int row = 0; row < 12; row++) {
                int takes = chart * 7 + row % 5 + 1;
                CHECKS.same("chart takes", x.chart(chart, row, 0), takes);
                CHECKS.same("chart gives", x.chart(chart, row, 1), takes + (row == 11 ? 1 : 0));
            }
        }
        CHECKS.noSuchIn(x, "chart(8, 0, 0)", () -> x.chart(8, 0, 0));
        CHECKS.noSuchIn(x, "chart(7, 12, 0)", () -> x.chart(7, 12, 0));
        CHECKS.noSuchIn(x, "chart(7, 11, 2)", () -> x.chart(7, 11, 2));
        CableChart y = Checks.taught("chart a row over row tog row cable 6 back 6 row rep 30 [ knit"
                + " 60 ];");
        int[] due = {0, 1, 2, 1, 12, 12, 1800, 1800};
        for (int i = 0; i < 8; i++) {
            CHECKS.same("chart(0, " + i / 2 + ", " + i % 2 + ")", y.chart(0, i / 2, i % 2), due[i]);
        }
    }

    private static void chartIs(String row, int takes, int gives) {
        CableChart x = Checks.taught("chart a row " + row + ";");
        CHECKS.same("what " + row + " takes", x.chart(0, 0, 0), takes);
        CHECKS.same("what " + row + " gives", x.chart(0, 0, 1), gives);
    }

    // "1000000 for all that are more"

    private static void chartsOfManyStitches() {
        String million = "rep 20 [ rep 20 [ rep 25 [ rep 2 [ knit 50 ] ] ] ]";
        String overs = "rep 20 [ rep 20 [ rep 25 [ rep 10 [ rep 10 [ over ] ] ] ] ]";
        String near = "rep 29 [ rep 29 [ rep 29 [ slip 41 ] ] ]";
        chartIs(near + " slip 50", 999999, 999999);
        chartIs(near + " slip 51", 1000000, 1000000);
        chartIs(near + " slip 52", 1000000, 1000000);
        chartIs(near + " slip 50 over", 999999, 1000000);
        chartIs(near + " slip 50 over over", 999999, 1000000);
        chartIs(near + " slip 49 tog", 1000000, 999999);
        chartIs(near + " slip 50 tog", 1000000, 1000000);
        chartIs(near + " slip 51 tog", 1000000, 1000000);
        chartIs(million, 1000000, 1000000);
        chartIs(million + " knit", 1000000, 1000000);
        chartIs("tog " + million, 1000000, 1000000);
        chartIs(million + " " + million, 1000000, 1000000);
        chartIs(overs, 0, 1000000);
        chartIs(overs + " over", 0, 1000000);
        chartIs("rep 30 [ " + overs + " ]", 0, 1000000);
        chartIs("rep 30 [ rep 30 [ " + million + " ] ] tog", 1000000, 1000000);
        String eight = Checks.times(8, "rep 30 [ ");
        String shut = Checks.times(8, " ]");
        chartIs(eight + "purl 60" + shut, 1000000, 1000000);
        chartIs(eight + "over" + shut, 0, 1000000);
        chartIs(eight + Checks.times(40, "knit 60 ") + shut, 1000000, 1000000);
    }

    // "-1 if it has a rest"

    private static void chartsWithARest() {
        for (String rest : new String[] {"knit rest", "purl rest", "slip rest", "rep rest [ over ]",
            "rep rest [ knit ]"}) {
            chartIs(rest, -1, -1);
            chartIs("knit 5 " + rest, -1, -1);
            chartIs(rest + " over", -1, -1);
            chartIs("rep 30 [ rep 30 [ rep 30 [ knit 60 ] ] ] " + rest, -1, -1);
            CableChart x = Checks.taught("chart a row tog row " + rest + " row over; chart b row"
                    + " purl; chart c row " + rest + ";");
            int[] due = {2, 1, -1, -1, 0, 1};
            for (int i = 0; i < 6; i++) {
                CHECKS.same("row " + i / 2 + " of 3", x.chart(0, i / 2, i % 2), due[i]);
            }
            CHECKS.same("the chart behind it", x.chart(1, 0, 0), 1);
            CHECKS.same("the one behind that", x.chart(2, 0, 1), -1);
        }
    }

    private static void chartRefused() {
        CableChart x = twoPieces();
        for (int bad : beyond(2)) {
            CHECKS.noSuchIn(x, "chart(" + bad + ", 0, 0)", () -> x.chart(bad, 0, 0));
            CHECKS.noSuchIn(x, "chart(0, " + bad + ", 0)", () -> x.chart(0, bad, 0));
            CHECKS.noSuchIn(x, "chart(0, 0, " + bad + ")", () -> x.chart(0, 0, bad));
        }
        CHECKS.noSuchIn(x, "a row of chart 0 alone", () -> x.chart(1, 1, 0));
        CHECKS.noSuchIn(x, "what of a rest", () -> x.chart(0, 0, 2));
    }

    // Promise 8

    private static void fit(String rows, int stitches, int due) {
        CableChart x = Checks.taught("chart z row tog; chart a " + rows + ";");
        CHECKS.same("fits of " + rows + " with " + stitches, x.fits(1, stitches), due);
    }

    private static void fitsEdges() {
        fit("row knit", 1, 1);
        fit("row knit", 2, 0);
        fit("row tog", 1, 0);
        fit("row tog", 2, 1);
        fit("row tog", 3, 0);
        fit("row knit 60", 60, 1);
        fit("row knit 60", 59, 0);
        fit("row over slip rest", 59, 1);
        fit("row over slip rest", 60, 0);
        fit(Checks.times(12, "row over slip rest "), 48, 12);
        fit(Checks.times(12, "row over slip rest "), 49, 11);
        fit(Checks.times(12, "row tog slip rest "), 13, 12);
        fit(Checks.times(12, "row tog slip rest "), 12, 11);
        fit("row slip rest row slip 3 row slip 4 row slip 3", 3, 2);
        fit("row slip rest row slip 3 row slip 2 row slip 3", 3, 2);
        fit("row slip rest row slip 3 row over slip rest row knit 4", 3, 4);
        fit("row tog row knit 2", 2, 1);
        CableChart x = twoPieces();
        Checks.put(x, "chart");
        String before = Snapshot.of(x);
        CHECKS.same("fits(0, 60)", x.fits(0, 60), 0);
        CHECKS.same("fits(0, 59)", x.fits(0, 59), 2);
        CHECKS.same("fits(1, 1)", x.fits(1, 1), 1);
        CHECKS.holds("fits changes nothing", Snapshot.of(x).equals(before));
        CHECKS.same("nor the tape", x.teach(), 1);
        CHECKS.same("where it ends", x.errorAt(), 5);
    }

    private static void fitsRefused() {
        CableChart x = twoPieces();
        for (int bad : beyond(2)) {
            CHECKS.noSuchIn(x, "fits(" + bad + ", 1)", () -> x.fits(bad, 1));
        }
        for (int bad : new int[] {0, -1, 61, LEAST, MOST}) {
            CHECKS.illegalIn(x, "fits(0, " + bad + ")", () -> x.fits(0, bad));
        }
    }

    // Promise 9: "Returns 0, or the error, 8 to 11."

    private static void knitAnswers() {
        CableChart x = Checks.taught("chart a row knit 4; chart b row slip rest over;"
                + "piece p cast 3 gauge 1 by 1 work a; piece q cast 5 gauge 1 by 1 work a;"
                + "piece r cast 60 gauge 1 by 1 work b; piece s cast 4 gauge 1 by 1"
                + " work a times 40 work a times 40 work a;");
        int[] due = {8, 9, 10, 11};
        for (int piece = 0; piece < 4; piece++) {
            CHECKS.same("knit(" + piece + ")", x.knit(piece), due[piece]);
            CHECKS.same("its error", x.piece(piece, 5), due[piece]);
        }
        x.cast(0, 4);
        CHECKS.same("knit without an error", x.knit(0), 0);
        CHECKS.same("the other ones stay", x.piece(3, 1), 80);
        for (int bad : beyond(4)) {
            CHECKS.noSuchIn(x, "knit(" + bad + ")", () -> x.knit(bad));
        }
        CableChart none = Checks.taught("chart a row knit;");
        CHECKS.noSuchIn(none, "knit(0) without pieces", () -> none.knit(0));
    }

    // "Knits a piece, from the beginning, in the place of what there was of it."

    private static void knitFromTheBeginning() {
        CableChart x = twoPieces();
        String before = Snapshot.of(x);
        CHECKS.same("knit once more", x.knit(0), 0);
        CHECKS.holds("all is as before", Snapshot.of(x).equals(before));
        x.cast(0, 60);
        CHECKS.same("with an error", x.knit(0), 10);
        CHECKS.same("rows", x.piece(0, 1), 0);
        CHECKS.noSuchIn(x, "a row of what there was", () -> x.many(0, 1));
        CHECKS.same("crosses of what there was", x.crosses(0, 0, 1), 0);
        CHECKS.same("front of what there was", x.front(0), -1);
        x.cast(0, 4);
        x.knit(0);
        CHECKS.holds("and back again", Snapshot.of(x).equals(before));
    }

    // Promise 10

    private static void castEdges() {
        CableChart x = twoPieces();
        CHECKS.same("cast(0, 1)", x.cast(0, 1), 4);
        CHECKS.same("cast(0, 60)", x.cast(0, 60), 1);
        CHECKS.same("cast(0, 59)", x.cast(0, 59), 60);
        CHECKS.same("cast(1, 5)", x.cast(1, 5), 5);
        int[] due = {59, 0, 0, 0, 0, -1, 0, 0};
        for (int what = 0; what < 8; what++) {
            CHECKS.same("piece(0, " + what + ") of what is gone", x.piece(0, what), due[what]);
        }
        CHECKS.noSuchIn(x, "a row of what is gone", () -> x.many(0, 0));
        CHECKS.noSuchIn(x, "a width of what is gone", () -> x.wide(0, 0));
        CHECKS.same("height of what is gone", x.high(0), 0);
        CHECKS.same("front of what is gone", x.front(0), -1);
        CHECKS.same("crosses of what is gone", x.crosses(0, 0, 1), 0);
        CHECKS.same("mean of what is gone", x.mean(), 0.0);
        CHECKS.same("knit", x.knit(0), 0);
        CHECKS.same("stitches", x.many(0, 0), 59);
        CHECKS.same("knit keeps the number", x.knit(0), 0);
        CHECKS.same("the number", x.piece(0, 0), 59);
        CHECKS.same("the other one", x.piece(1, 0), 5);
        CHECKS.same("cast(0, 2)", x.cast(0, 2), 59);
        CHECKS.same("knit of a smaller number", x.knit(0), 8);
        CHECKS.same("its strands", x.piece(0, 6), 2);
    }

    private static void castRefused() {
        CableChart x = twoPieces();
        for (int bad : new int[] {0, -1, 61, 62, LEAST, MOST}) {
            CHECKS.illegalIn(x, "cast(0, " + bad + ")", () -> x.cast(0, bad));
            CHECKS.illegalIn(x, "cast(1, " + bad + ")", () -> x.cast(1, bad));
        }
        for (int bad : beyond(2)) {
            CHECKS.noSuchIn(x, "cast(" + bad + ", 1)", () -> x.cast(bad, 1));
        }
        CHECKS.same("what it was", x.cast(0, 7), 4);
    }

    // Promise 11

    private static void pieceEdges() {
        CableChart x = twoPieces();
        int[] knit = {4, 4, 4, (6 + 1) + (2 + 3) + (6 + 1) + (2 + 3), 2, 0, 6, 2};
        int[] unknit = {5, 0, 0, 0, 0, -1, 0, 0};
        for (int what = 0; what < 8; what++) {
            CHECKS.same("piece(0, " + what + ")", x.piece(0, what), knit[what]);
            CHECKS.same("piece(1, " + what + ")", x.piece(1, what), unknit[what]);
        }
        for (int bad : beyond(8)) {
            CHECKS.noSuchIn(x, "piece(0, " + bad + ")", () -> x.piece(0, bad));
            CHECKS.noSuchIn(x, "piece(1, " + bad + ")", () -> x.piece(1, bad));
        }
        for (int bad : beyond(2)) {
            CHECKS.noSuchIn(x, "piece(" + bad + ", 0)", () -> x.piece(bad, 0));
        }
        x.knit(1);
        int[] failed = {5, 0, 5, 0, 0, 9, 5, 0};
        for (int what = 0; what < 8; what++) {
            CHECKS.same("piece(1, " + what + ") with an error", x.piece(1, what), failed[what]);
        }
    }

    // Promise 12

    private static void stitchEdges() {
        CableChart x = twoPieces();
        CHECKS.same("the first one", x.stitch(0, 0, 0, 0), 0);
        CHECKS.same("the last one of row 0", x.stitch(0, 0, 3, 1), 3);
        CHECKS.rowIs(x, 1, "77643", 1, 2, 0, 4, 3);
        CHECKS.rowIs(x, 2, "5111", 1, 0, 4, 3);
        CHECKS.rowIs(x, 4, "5111", 0, 1, 5, 3);
        for (int bad : beyond(4)) {
            CHECKS.noSuchIn(x, "stitch(0, 0, " + bad + ", 0)", () -> x.stitch(0, 0, bad, 0));
        }
        CHECKS.noSuchIn(x, "the 6th of a row of 5", () -> x.stitch(0, 1, 5, 0));
        CHECKS.noSuchIn(x, "the 5th of a row of 4", () -> x.stitch(0, 2, 4, 0));
        for (int bad : beyond(5)) {
            CHECKS.noSuchIn(x, "stitch(0, " + bad + ", 0, 0)", () -> x.stitch(0, bad, 0, 0));
        }
        for (int bad : beyond(2)) {
            CHECKS.noSuchIn(x, "stitch(0, 0, 0, " + bad + ")", () -> x.stitch(0, 0, 0, bad));
            CHECKS.noSuchIn(x, "stitch(" + bad + ", 0, 0, 0)", () -> x.stitch(bad, 0, 0, 0));
        }
        CHECKS.noSuchIn(x, "a stitch of what is not knit", () -> x.stitch(1, 0, 0, 0));
        CableChart full = Checks.knit(60, "row slip rest");
        CHECKS.same("the last one of 60", full.stitch(0, 1, 59, 1), 59);
        CHECKS.noSuchIn(full, "the 61st", () -> full.stitch(0, 1, 60, 1));
    }

    // Promise 13

    private static void manyEdges() {
        CableChart x = twoPieces();
        int[] due = {4, 5, 4, 5, 4};
        for (int row = 0; row < 5; row++) {
            CHECKS.same("many(0, " + row + ")", x.many(0, row), due[row]);
        }
        for (int bad : beyond(5)) {
            CHECKS.noSuchIn(x, "many(0, " + bad + ")", () -> x.many(0, bad));
        }
        for (int bad : beyond(2)) {
            CHECKS.noSuchIn(x, "many(" + bad + ", 0)", () -> x.many(bad, 0));
        }
        CHECKS.noSuchIn(x, "many(1, 0) of what is not knit", () -> x.many(1, 0));
        CHECKS.same("a row of one", Checks.knit(1, "row slip").many(0, 1), 1);
        CHECKS.same("a row of 60", Checks.knit(59, "row over slip rest").many(0, 1), 60);
    }

    // Promise 14: "-1 if in none"

    private static void whereEdges() {
        CableChart x = twoPieces();
        int[] due = {2, 0, 1, 4, 3, -1};
        for (int strand = 0; strand < 6; strand++) {
            CHECKS.same("where(0, " + strand + ", 1)", x.where(0, strand, 1), due[strand]);
        }
        CHECKS.same("a strand that is gone", x.where(0, 2, 2), -1);
        CHECKS.same("a strand not yet there", x.where(0, 4, 0), -1);
        CHECKS.same("the first one of the cast on", x.where(0, 0, 0), 0);
        CHECKS.same("the last one of the cast on", x.where(0, 3, 0), 3);
        for (int none : new int[] {-1, 6, 60, 4096, 65536, LEAST, MOST}) {
            CHECKS.same("where(0, " + none + ", 4)", x.where(0, none, 4), -1);
        }
        for (int bad : beyond(5)) {
            CHECKS.noSuchIn(x, "where(0, 0, " + bad + ")", () -> x.where(0, 0, bad));
        }
        for (int bad : beyond(2)) {
            CHECKS.noSuchIn(x, "where(" + bad + ", 0, 0)", () -> x.where(bad, 0, 0));
        }
        CHECKS.noSuchIn(x, "where(1, 0, 0) of what is not knit", () -> x.where(1, 0, 0));
        CableChart most = Checks.taught("chart a row rep rest [ tog ] row rep rest [ over knit ];"
                + "piece p cast 60 gauge 1 by 1 work a times 40;");
        CHECKS.same("many overs", most.knit(0), 0);
        CHECKS.same("strands of them", most.piece(0, 6), 60 + 40 * 30);
        CHECKS.same("the last one", most.where(0, 1259, 80), 58);
        CHECKS.same("that which would be next", most.where(0, 1260, 80), -1);
    }

    // Promise 15: "each cable counted once; 0 if one of them is none, or both are the same"

    private static void crossesEdges() {
        CableChart x = Checks.knit(6, "row cable 3 front 3 row cable 3 front 3 row cable 3 back 3"
                + " row slip rest");
        CHECKS.rowIs(x, 3, "666777", 3, 4, 5, 0, 1, 2);
        for (int a = 0; a < 3; a++) {
            for (int b = 3; b < 6; b++) {
                CHECKS.same(a + " in front of " + b, x.crosses(0, a, b), 1);
                CHECKS.same(b + " in front of " + a, x.crosses(0, b, a), 2);
            }
        }
        CHECKS.same("two that are held", x.crosses(0, 0, 1), 0);
        CHECKS.same("two others", x.crosses(0, 4, 3), 0);
        for (int strand = 0; strand < 6; strand++) {
            CHECKS.same("both the same", x.crosses(0, strand, strand), 0);
        }
        for (int none : new int[] {-1, 6, 60, 4860, LEAST, MOST}) {
            CHECKS.same("crosses(0, 0, " + none + ")", x.crosses(0, 0, none), 0);
            CHECKS.same("crosses(0, " + none + ", 0)", x.crosses(0, none, 0), 0);
            CHECKS.same("crosses(0, " + none + ", " + none + ")", x.crosses(0, none, none), 0);
        }
        CableChart y = twoPieces();
        CHECKS.same("crosses of what is not knit", y.crosses(1, 0, 1), 0);
        for (int bad : beyond(2)) {
            CHECKS.noSuchIn(y, "crosses(" + bad + ", 0, 1)", () -> y.crosses(bad, 0, 1));
            CHECKS.noSuchIn(y, "crosses(" + bad + ", 0, 0)", () -> y.crosses(bad, 0, 0));
        }
        CableChart rows = Checks.taught("chart a row cable 1 front 1 row cable 1 back 1;"
                + "piece p cast 2 gauge 1 by 1 work a times 40;");
        rows.knit(0);
        CHECKS.same("in each of 80 rows", rows.crosses(0, 0, 1), 80);
        CHECKS.same("in none of them", rows.crosses(0, 1, 0), 0);
        CableChart two = Checks.knit(6, "row cable 1 front 1 cable 2 back 2");
        CHECKS.same("in the first of two cables", two.crosses(0, 0, 1), 1);
        CHECKS.same("in the second one", two.crosses(0, 5, 2), 1);
        CHECKS.same("in no cable with it", two.crosses(0, 0, 2), 0);
        CHECKS.same("in no cable with it either", two.crosses(0, 5, 1), 0);
        CableChart gone = Checks.knit(3, "row cable 1 front 2 row slip tog row cable 1 front 1");
        CHECKS.rowIs(gone, 3, "76", 2, 1);
        CHECKS.same("one that is gone later", gone.crosses(0, 0, 2), 1);
        CHECKS.same("one that crosses later", gone.crosses(0, 1, 2), 1);
    }

    /** A row that is full of cables: each stitch crosses in front of one other alone. */
    private static void crossesIn30Cables() {
        for (int a = 0; a < 60; a++) {
            CableChart x = Checks.knit(60, "row rep 15 [ cable 1 front 1 cable 1 back 1 ]");
            int due = a % 4 == 0 ? a + 1 : a % 4 == 3 ? a - 1 : -1;
            for (int b = 0; b < 60; b++) {
                CHECKS.same("crosses(0, " + a + ", " + b + ")", x.crosses(0, a, b),
                        b == due ? 1 : 0);
            }
        }
    }

    // Promise 16: "10 * its stitches, less by 3 for each cable of it, times 10, divided by the
    // first number of the gauge (cut)"

    private static void wideEdges() {
        int[] gauges = {1, 2, 3, 7, 39, 40};
        for (int gauge : gauges) {
            CableChart x = Checks.taught("chart a row slip rest row cable 1 front 1 slip rest"
                    + " row rep rest [ cable 1 back 1 ] row rep rest [ tog ];"
                    + "piece p cast 60 gauge " + gauge + " by 9 work a; piece q cast 1 gauge "
                    + gauge + " by 9;");
            x.knit(0);
            x.knit(1);
            CHECKS.same("60 stitches by " + gauge, x.wide(0, 0), 6000 / gauge);
            CHECKS.same("of row 1", x.wide(0, 1), 6000 / gauge);
            CHECKS.same("with a cable", x.wide(0, 2), 5970 / gauge);
            CHECKS.same("with 30 cables", x.wide(0, 3), 5100 / gauge);
            CHECKS.same("30 stitches behind cables", x.wide(0, 4), 3000 / gauge);
            CHECKS.same("one stitch", x.wide(1, 0), 100 / gauge);
        }
        CableChart x = twoPieces();
        int[] due = {133, (50 - 3) * 10 / 3, 133, 156, 133};
        for (int row = 0; row < 5; row++) {
            CHECKS.same("wide(0, " + row + ")", x.wide(0, row), due[row]);
        }
        for (int bad : beyond(5)) {
            CHECKS.noSuchIn(x, "wide(0, " + bad + ")", () -> x.wide(0, bad));
        }
        for (int bad : beyond(2)) {
            CHECKS.noSuchIn(x, "wide(" + bad + ", 0)", () -> x.wide(bad, 0));
        }
        CHECKS.noSuchIn(x, "wide(1, 0) of what is not knit", () -> x.wide(1, 0));
        x.cast(0, 5);
        x.knit(0);
        CHECKS.same("the gauge stays with another cast on", x.wide(0, 0), 166);
    }

    // Promise 17: "100 * its rows (the row 0 not counted), divided by the second number of the
    // gauge (cut)"

    private static void highEdges() {
        for (int gauge : new int[] {1, 2, 3, 7, 39, 40}) {
            CableChart x = Checks.taught("chart a row slip rest; piece p cast 2 gauge 9 by " + gauge
                    + " work a times 40 work a times 40; piece q cast 2 gauge 9 by " + gauge
                    + " work a; piece r cast 2 gauge 9 by " + gauge + ";");
            CHECKS.same("of what is not knit", x.high(0), 0);
            for (int piece = 0; piece < 3; piece++) {
                x.knit(piece);
            }
            CHECKS.same("80 rows by " + gauge, x.high(0), 8000 / gauge);
            CHECKS.same("one row by " + gauge, x.high(1), 100 / gauge);
            CHECKS.same("the row 0 alone", x.high(2), 0);
        }
        CableChart x = twoPieces();
        CHECKS.same("high(0)", x.high(0), 100);
        for (int bad : beyond(2)) {
            CHECKS.noSuchIn(x, "high(" + bad + ")", () -> x.high(bad));
        }
    }

    // Promise 18: "each other one of each cable counted, of several the one with the smallest
    // number; -1 if none did"

    private static void frontEdges() {
        CHECKS.same("without rows", Checks.taught("piece p cast 9 gauge 1 by 1;").front(0), -1);
        CHECKS.same("without cables", Checks.knit(2, "row knit 2").front(0), -1);
        CHECKS.same("the held one", Checks.knit(2, "row cable 1 front 1").front(0), 0);
        CHECKS.same("the other one", Checks.knit(2, "row cable 1 back 1").front(0), 1);
        CHECKS.same("of several", Checks.knit(12, "row cable 6 back 6").front(0), 6);
        CHECKS.same("of the same in two rows",
                Checks.knit(2, "row cable 1 back 1 row cable 1 back 1").front(0), 0);
        String turns = " row slip 7 cable 1 back 1 slip rest row slip 7 cable 1 front 1 slip rest";
        CHECKS.same("5 in turn are less than 6", Checks.knit(13, "row cable 1 front 6 slip rest"
                + turns + turns + " row slip 7 cable 1 back 1 slip rest").front(0), 0);
        CHECKS.same("6 in turn are as many", Checks.knit(13, "row cable 1 front 6 slip rest" + turns
                + turns + turns).front(0), 0);
        CHECKS.same("7 in turn are more", Checks.knit(13, "row cable 1 front 6 slip rest" + turns
                + turns + turns + " row slip 7 cable 1 back 1 slip rest").front(0), 8);
        CHECKS.same("one of a strand that is put over", Checks.knit(2, "row over over slip 2 row"
                + " slip cable 1 front 2").front(0), 3);
        CHECKS.same("one that is gone later", Checks.knit(4, "row slip 2 cable 1 back 1 row slip"
                + " tog slip row slip 3").front(0), 3);
        CHECKS.same("none of those that are behind", Checks.knit(4, "row slip 2 cable 1 front 1"
                + " row slip cable 1 front 1 slip row cable 1 front 1 slip 2").front(0), 0);
        CHECKS.same("none of those that are held behind", Checks.knit(4, "row cable 1 back 1 slip 2"
                + " row slip cable 1 back 1 slip row slip 2 cable 1 back 1").front(0), 1);
        CHECKS.same("none that is put over, knit or taken together", Checks.knit(5,
                "row over knit purl slip tog row over tog slip rest").front(0), -1);
        CableChart many = Checks.taught("chart a row rep rest [ tog over ]; chart b row slip 58"
                + " cable 1 back 1; piece p cast 60 gauge 1 by 1 work a times 40 work a times 39"
                + " work b;");
        CHECKS.same("knit with many strands", many.knit(0), 0);
        CHECKS.same("strands of it", many.piece(0, 6), 60 + 79 * 30);
        CHECKS.same("the last one of many", many.front(0), 60 + 79 * 30 - 1);
        CableChart x = twoPieces();
        CHECKS.same("front(0)", x.front(0), 0);
        CHECKS.same("front of what is not knit", x.front(1), -1);
        CHECKS.same("front(0) behind it", x.front(0), 0);
        for (int bad : beyond(2)) {
            CHECKS.noSuchIn(x, "front(" + bad + ")", () -> x.front(bad));
        }
    }

    // Promise 19: "the least number of stitches, 1 to 60, .. -1 if there is none"

    private static void need(String rows, String work, int due) {
        CableChart x = Checks.taught("chart a " + rows + "; piece p cast 7 gauge 1 by 1 " + work
                + ";");
        CHECKS.same("needs of " + rows + ", " + work, x.needs(0), due);
        CHECKS.same("piece behind it", x.piece(0, 5), -1);
        CHECKS.same("its number behind it", x.piece(0, 0), 7);
    }

    private static void needsEdges() {
        need("row slip rest", "work a", 1);
        need("row knit", "work a", 1);
        need("row knit", "", 1);
        need("row tog", "work a", 2);
        need("row knit 59", "work a", 59);
        need("row knit 60", "work a", 60);
        need("row knit 60 knit", "work a", -1);
        need("row over knit 60", "work a", -1);
        need("row knit 3 row knit 4", "work a", -1);
        need("row slip rest", "work a times 40 work a times 40 work a", -1);
        need("row slip rest", "work a times 40 work a times 40 work a when stitches < 60", 60);
        need("row slip rest", "work a times 40 work a times 40 work a when stitches > 1", 1);
        need("row tog slip rest", "work a times 40 work a times 19", 60);
        need("row tog slip rest", "work a times 40 work a times 20", -1);
        need("row knit 9", "work a times stitches - 8", 1);
        need("row knit 9", "work a when stitches < 12", 9);
        need("row rep rest [ knit 7 ]", "work a", 7);
        need("row over slip rest", "work a times 40 work a times 20 when stitches = 60", 1);
        CableChart x = twoPieces();
        CHECKS.same("needs(0)", x.needs(0), 3);
        CHECKS.same("needs(1)", x.needs(1), 1);
        for (int bad : beyond(2)) {
            CHECKS.noSuchIn(x, "needs(" + bad + ")", () -> x.needs(bad));
        }
        CableChart done = Checks.taught("chart a row knit 9; piece p cast 9 gauge 1 by 1 work a;"
                + "piece q cast 9 gauge 1 by 1 work a when done p;");
        CHECKS.same("needs without done", done.needs(1), 1);
        done.knit(0);
        CHECKS.same("needs with done", done.needs(1), 9);
        done.cast(0, 9);
        CHECKS.same("needs with one cast on anew", done.needs(1), 1);
    }

    // "(nothing is changed)"

    private static void needsChangesNothing() {
        CableChart x = twoPieces();
        Checks.put(x, "chart a row knit 61;");
        long digest = x.digest();
        String row = x.stitch(0, 1, 2, 0) + " " + x.where(0, 0, 3) + " " + x.crosses(0, 0, 1);
        x.needs(0);
        x.needs(1);
        CHECKS.same("digest behind needs", x.digest(), digest);
        x.would(0, 60, 0);
        x.would(0, 3, 1);
        x.would(1, 1, 2);
        x.fits(0, 33);
        CHECKS.same("digest behind would", x.digest(), digest);
        CHECKS.holds("rows behind would", row.equals(x.stitch(0, 1, 2, 0) + " "
                + x.where(0, 0, 3) + " " + x.crosses(0, 0, 1)));
        CHECKS.same("front behind would", x.front(0), 0);
        CHECKS.same("done behind would", x.count(2), 1);
        CHECKS.same("the tape behind would", x.teach(), 5);
        CHECKS.same("errorAt", x.errorAt(), 17);
        CHECKS.same("needs behind errors", x.needs(0), 3);
        CHECKS.same("errorAt behind needs", x.errorAt(), 17);
    }

    // Promise 20

    private static void wouldEdges() {
        String[] rows = {"row knit 9", "row over slip rest row knit 10",
            "row rep rest [ knit tog ]", "row slip rest over",
            "row slip rest row cable 2 front 2 over slip rest"};
        for (String row : rows) {
            String text = "chart a " + row + "; piece p cast 9 gauge 1 by 1 work a times 4;";
            for (int stitches : new int[] {1, 2, 9, 10, 56, 57, 59, 60}) {
                CableChart x = Checks.taught(text);
                CableChart y = Checks.taught(text);
                y.cast(0, stitches);
                String call = "would of " + row + " with " + stitches;
                CHECKS.same(call, x.would(0, stitches, 0), y.knit(0));
                CHECKS.same("rows, " + call, x.would(0, stitches, 1), y.piece(0, 1));
                CHECKS.same("stitches, " + call, x.would(0, stitches, 2), y.piece(0, 2));
                CHECKS.same("yarn, " + call, x.would(0, stitches, 3), y.piece(0, 3));
                CHECKS.same("cast, " + call, x.cast(0, 9), 9);
            }
        }
        CableChart x = Checks.taught("chart a row knit 9; piece p cast 1 gauge 1 by 1 work a;"
                + "piece q cast 60 gauge 1 by 1;");
        int[][] due = {{8, 0, 1, 0}, {0, 1, 9, 9}, {9, 0, 10, 0}, {9, 0, 60, 0}};
        int[] stitches = {1, 9, 10, 60};
        for (int i = 0; i < 4; i++) {
            for (int what = 0; what < 4; what++) {
                CHECKS.same("would(0, " + stitches[i] + ", " + what + ")",
                        x.would(0, stitches[i], what), due[i][what]);
            }
            CHECKS.same("a cast on alone", x.would(1, stitches[i], 2), stitches[i]);
        }
    }

    private static void wouldRefused() {
        CableChart x = twoPieces();
        for (int bad : new int[] {0, -1, 61, LEAST, MOST}) {
            CHECKS.illegalIn(x, "would(0, " + bad + ", 0)", () -> x.would(0, bad, 0));
        }
        for (int bad : beyond(4)) {
            CHECKS.illegalIn(x, "would(0, 1, " + bad + ")", () -> x.would(0, 1, bad));
            CHECKS.illegalIn(x, "would(0, 0, " + bad + ")", () -> x.would(0, 0, bad));
        }
        for (int bad : beyond(2)) {
            CHECKS.noSuchIn(x, "would(" + bad + ", 1, 0)", () -> x.would(bad, 1, 0));
        }
    }

    // Promise 21: "0 without any"

    private static void meanEdges() {
        CHECKS.same("mean without pieces", new CableChart().mean(), 0.0);
        CableChart x = Checks.taught("chart a row slip rest; chart b row knit;"
                + "piece p cast 60 gauge 1 by 1; piece q cast 1 gauge 1 by 1 work a times 3;"
                + "piece r cast 1 gauge 1 by 1 work b; piece s cast 2 gauge 1 by 1 work b;");
        CHECKS.same("mean without a piece that is knit", x.mean(), 0.0);
        x.knit(0);
        CHECKS.same("mean of a row 0", x.mean(), 0.0);
        x.knit(3);
        CHECKS.same("mean of an error in row 1", x.mean(), 0.0);
        x.knit(1);
        CHECKS.same("mean without yarn", x.mean(), 0.0);
        CHECKS.same("its sign", Double.doubleToRawLongBits(x.mean()), 0L);
        x.knit(2);
        CHECKS.same("mean of 4 rows", x.mean(), 0.25);
        x.cast(1, 1);
        CHECKS.same("mean of one row", x.mean(), 1.0);
        x.cast(2, 1);
        CHECKS.same("mean of none again", x.mean(), 0.0);
        CableChart y = Checks.taught("chart a row knit rest row purl rest row slip rest;"
                + "piece p cast 5 gauge 1 by 1 work a;");
        y.knit(0);
        CHECKS.same("mean of thirds", y.mean(), 10.0 / 3.0);
    }

    // Promise 22

    private static List<Long> numbersOf(CableChart x, int[] rowsOfCharts) {
        List<Long> numbers = new ArrayList<>();
        for (int what = 0; what < 7; what++) {
            numbers.add((long) x.count(what));
        }
        for (int chart = 0; chart < rowsOfCharts.length; chart++) {
            for (int row = 0; row < rowsOfCharts[chart]; row++) {
                numbers.add((long) x.chart(chart, row, 0));
                numbers.add((long) x.chart(chart, row, 1));
            }
        }
        for (int piece = 0; piece < x.count(1); piece++) {
            for (int what = 0; what < 8; what++) {
                numbers.add((long) x.piece(piece, what));
            }
            numbers.add((long) x.high(piece));
            numbers.add((long) x.front(piece));
            int rows = x.piece(piece, 5) < 0 ? -1 : x.piece(piece, 1);
            for (int row = 0; row <= rows; row++) {
                numbers.add((long) x.wide(piece, row));
                for (int column = 0; column < x.many(piece, row); column++) {
                    numbers.add((long) x.stitch(piece, row, column, 0));
                    numbers.add((long) x.stitch(piece, row, column, 1));
                }
            }
        }
        return numbers;
    }

    /** Without a wrap-around on the way: the lowest 64 bits of the whole number at the end. */
    private static long folded(List<Long> numbers) {
        BigInteger d = BigInteger.valueOf(769);
        for (long number : numbers) {
            d = d.multiply(BigInteger.valueOf(31)).add(BigInteger.valueOf(number));
        }
        return d.longValue();
    }

    private static void digestEdges() {
        CableChart none = new CableChart();
        CHECKS.same("digest of nothing", none.digest(), 769L * 27512614111L);
        CHECKS.same("as it is folded", none.digest(), folded(numbersOf(none, new int[0])));
        none.feed(0, 0, 0, 0, 0);
        CHECKS.same("digest of a tape", none.digest(), 769L * 27512614111L + 20L);
        CableChart charts = Checks.taught("chart a row knit rest row over; chart b row tog;");
        CHECKS.same("digest of charts", charts.digest(),
                folded(numbersOf(charts, new int[] {2, 1})));
        CableChart x = twoPieces();
        CHECKS.same("digest of pieces", x.digest(), folded(numbersOf(x, new int[] {2, 1})));
        x.knit(1);
        CHECKS.same("digest with an error", x.digest(), folded(numbersOf(x, new int[] {2, 1})));
        x.cast(0, 9);
        CHECKS.same("digest of what is gone", x.digest(), folded(numbersOf(x, new int[] {2, 1})));
    }

    private static void digestWrapsAround() {
        CableChart x = Checks.taught("chart a row slip rest; piece p cast 1 gauge 1 by 1 work a"
                + " times 40 work a times 20; piece q cast 60 gauge 40 by 40;"
                + "piece r cast 60 gauge 7 by 9;");
        List<Long> unknit = numbersOf(x, new int[] {1});
        CHECKS.holds("it is more than 64 bits", unknit.size() > 13);
        CHECKS.same("digest of what is not knit", x.digest(), folded(unknit));
        x.knit(0);
        CHECKS.same("digest of 60 rows", x.digest(), folded(numbersOf(x, new int[] {1})));
    }

    // "If several exceptions apply, the one that is named first is thrown."

    private static void theFirstNamedException() {
        CableChart x = twoPieces();
        for (int bad : beyond(2)) {
            for (int stitches : new int[] {0, 61, LEAST, MOST}) {
                CHECKS.noSuchIn(x, "fits(" + bad + ", " + stitches + ")",
                        () -> x.fits(bad, stitches));
                CHECKS.noSuchIn(x, "cast(" + bad + ", " + stitches + ")",
                        () -> x.cast(bad, stitches));
                CHECKS.noSuchIn(x, "would(" + bad + ", " + stitches + ", 0)",
                        () -> x.would(bad, stitches, 0));
                CHECKS.noSuchIn(x, "would(" + bad + ", " + stitches + ", 4)",
                        () -> x.would(bad, stitches, 4));
            }
            CHECKS.noSuchIn(x, "would(" + bad + ", 1, -1)", () -> x.would(bad, 1, -1));
        }
    }

    /** Without charts and pieces each of these is refused. */
    private static void nothingAtAll() {
        for (CableChart x : new CableChart[] {new CableChart(), Checks.taught("\n")}) {
            for (int i : new int[] {0, 1, -1, LEAST, MOST}) {
                CHECKS.noSuchIn(x, "chart", () -> x.chart(i, 0, 0));
                CHECKS.noSuchIn(x, "fits", () -> x.fits(i, 1));
                CHECKS.noSuchIn(x, "knit", () -> x.knit(i));
                CHECKS.noSuchIn(x, "cast", () -> x.cast(i, 1));
                CHECKS.noSuchIn(x, "piece", () -> x.piece(i, 0));
                CHECKS.noSuchIn(x, "stitch", () -> x.stitch(i, 0, 0, 0));
                CHECKS.noSuchIn(x, "many", () -> x.many(i, 0));
                CHECKS.noSuchIn(x, "where", () -> x.where(i, 0, 0));
                CHECKS.noSuchIn(x, "crosses", () -> x.crosses(i, 0, 1));
                CHECKS.noSuchIn(x, "wide", () -> x.wide(i, 0));
                CHECKS.noSuchIn(x, "high", () -> x.high(i));
                CHECKS.noSuchIn(x, "front", () -> x.front(i));
                CHECKS.noSuchIn(x, "needs", () -> x.needs(i));
                CHECKS.noSuchIn(x, "would", () -> x.would(i, 1, 0));
            }
        }
    }
}
