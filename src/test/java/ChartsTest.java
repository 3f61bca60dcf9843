/** Promises 7 and 8: chart, fits. */
public final class ChartsTest {
    private static final Checks CHECKS = new Checks("ChartsTest");

    public static void main(String[] args) {
        takesAndGives();
        manyStitches();
        chartRefusals();
        howFarItFits();
        fitsRefusals();
        CHECKS.finish();
    }

    private static void row(String row, int takes, int gives) {
        CableChart x = Checks.taught("chart z row knit rest; chart a row purl row " + row
                + " row knit rest;");
        CHECKS.same("what " + row + " takes", x.chart(1, 1, 0), takes);
        CHECKS.same("what " + row + " gives", x.chart(1, 1, 1), gives);
        CHECKS.same("what the row ahead takes", x.chart(1, 0, 0), 1);
        CHECKS.same("what the row behind gives", x.chart(1, 2, 1), -1);
        CHECKS.same("what the other chart takes", x.chart(0, 0, 0), -1);
    }

    private static void takesAndGives() {
        row("knit", 1, 1);
        row("purl 60", 60, 60);
        row("slip 2 knit purl 3", 6, 6);
        row("over", 0, 1);
        row("tog", 2, 1);
        row("cable 6 front 6", 12, 12);
        row("cable 2 back 3", 5, 5);
        row("rep 30 [ over ]", 0, 30);
        row("rep 3 [ knit tog over over ]", 9, 12);
        row("rep 2 [ tog rep 3 [ over cable 1 back 1 ] ] knit", 17, 21);
        row("over rep 1 [ tog ] slip 7", 9, 9);
        row("knit rest", -1, -1);
        row("rep rest [ over ]", -1, -1);
        row("knit 2 rep 2 [ tog ] slip rest", -1, -1);
        row("rep rest [ rep 30 [ rep 30 [ rep 30 [ rep 30 [ knit 60 ] ] ] ] ]", -1, -1);
    }

    private static void manyStitches() {
        String four = Checks.times(4, "rep 30 [ ");
        String eight = Checks.times(8, "rep 30 [ ");
        row(four + "over" + Checks.times(4, "]"), 0, 810000);
        row(four + "tog" + Checks.times(4, "]"), 1000000, 810000);
        row(eight + "knit 60" + Checks.times(8, "]"), 1000000, 1000000);
        row(eight + "over" + Checks.times(8, "]") + "knit 2", 2, 1000000);
        row(eight + "knit" + Checks.times(8, "]") + eight + "knit" + Checks.times(8, "]"),
                1000000, 1000000);
        row("rep 20 [ rep 20 [ rep 25 [ rep 2 [ knit 50 ] ] ] ]", 1000000, 1000000);
        row("rep 20 [ rep 20 [ rep 25 [ rep 2 [ knit 50 ] ] ] ] over", 1000000, 1000000);
        String near = "rep 29 [ rep 29 [ rep 29 [ knit 41 ] ] ] ";
        row(near + "rep 25 [ tog ]", 999999, 999974);
        row(near + "rep 25 [ tog ] slip", 1000000, 999975);
        row(near + "rep 30 [ tog ]", 1000000, 999979);
    }

    private static void chartRefusals() {
        CableChart x = Checks.taught("chart a row knit row purl; chart b row slip;");
        for (int bad : new int[] {-1, 2, 8, Integer.MIN_VALUE, Integer.MAX_VALUE}) {
            CHECKS.noSuch("chart(" + bad + ", 0, 0)", () -> x.chart(bad, 0, 0));
            CHECKS.noSuch("chart(0, " + bad + ", 0)", () -> x.chart(0, bad, 0));
            CHECKS.noSuch("chart(0, 0, " + bad + ")", () -> x.chart(0, 0, bad));
        }
        CHECKS.noSuch("a row of the other chart", () -> x.chart(1, 1, 0));
    }

    private static void fit(String rows, int stitches, int due) {
        CableChart x = Checks.taught("chart a " + rows + "; piece p cast 1 gauge 1 by 1;");
        CHECKS.same("fits of " + rows + " with " + stitches, x.fits(0, stitches), due);
        CHECKS.same("rows behind fits", x.count(3), 0);
        CHECKS.same("error behind fits", x.piece(0, 5), -1);
    }

    private static void howFarItFits() {
        fit("row knit row knit", 1, 2);
        fit("row knit row knit", 2, 0);
        fit("row knit 2 row tog row knit row knit 2 row knit 2", 2, 3);
        fit("row over knit rest row knit 5 row knit 5 over row knit 5", 4, 3);
        fit("row over knit rest row knit 5 row knit 5 over row knit 6", 4, 4);
        fit("row knit rest", 60, 1);
        fit("row knit rest over", 60, 0);
        fit("row knit rest over", 59, 1);
        fit("row knit rest over row knit rest over", 58, 2);
        fit("row knit rest over row knit rest over row knit rest over", 58, 2);
        fit("row rep rest [ knit purl ]", 7, 0);
        fit("row rep rest [ knit purl ]", 8, 1);
        fit("row rep rest [ over ] row knit", 1, 0);
        fit("row rep rest [ over ] knit", 1, 1);
        fit("row rep rest [ tog ]", 60, 1);
        fit("row rep rest [ tog ] row rep rest [ tog ] row rep rest [ tog ]", 60, 2);
        fit(Checks.times(12, "row slip rest "), 3, 12);
        fit("row cable 6 front 6", 12, 1);
        fit("row cable 6 front 6", 11, 0);
        fit("row cable 6 front 6", 13, 0);
    }

    private static void fitsRefusals() {
        CableChart x = Checks.taught("chart a row knit;");
        for (int bad : new int[] {-1, 0, 61, Integer.MIN_VALUE, Integer.MAX_VALUE}) {
            CHECKS.illegal("fits(0, " + bad + ")", () -> x.fits(0, bad));
            CHECKS.noSuch("fits(1, " + bad + ")", () -> x.fits(1, bad));
        }
        CHECKS.noSuch("fits(-1, 1)", () -> x.fits(-1, 1));
        CHECKS.noSuch("fits(MAX, 1)", () -> x.fits(Integer.MAX_VALUE, 1));
    }
}
