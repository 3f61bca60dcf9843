/** Promises 9 to 18: knit, cast, piece, stitch, many, where, crosses, wide, high, front. */
public final class KnittingTest {
    private static final Checks CHECKS = new Checks("KnittingTest");

    public static void main(String[] args) {
        plainStitches();
        oversAndTogs();
        cables();
        reps();
        errorsOfRows();
        errorsInTheirOrder();
        tooManyRows();
        failedRowsCountNothing();
        works();
        dones();
        casting();
        numbersOfPieces();
        wheres();
        crossings();
        fronts();
        gauges();
        refusals();
        CHECKS.finish();
    }

    private static void yarnIs(CableChart x, int yarn, int holes, int strands, int cables) {
        CHECKS.same("error", x.piece(0, 5), 0);
        CHECKS.same("yarn", x.piece(0, 3), yarn);
        CHECKS.same("holes", x.piece(0, 4), holes);
        CHECKS.same("strands", x.piece(0, 6), strands);
        CHECKS.same("cables", x.piece(0, 7), cables);
    }

    private static void plainStitches() {
        CableChart x = Checks.knit(6, "row knit purl 2 slip knit rest row slip rest purl rest");
        CHECKS.rowIs(x, 0, "000000", 0, 1, 2, 3, 4, 5);
        CHECKS.rowIs(x, 1, "122311", 0, 1, 2, 3, 4, 5);
        CHECKS.rowIs(x, 2, "333333", 0, 1, 2, 3, 4, 5);
        yarnIs(x, 5, 0, 6, 0);
        CableChart y = Checks.knit(1, "row purl rest");
        CHECKS.rowIs(y, 1, "2", 0);
        CableChart z = Checks.knit(60, "row knit 60 row slip 60 row purl 60");
        CHECKS.same("many", z.many(0, 3), 60);
        CHECKS.same("the last strand", z.stitch(0, 3, 59, 1), 59);
        yarnIs(z, 120, 0, 60, 0);
    }

    private static void oversAndTogs() {
        CableChart x = Checks.knit(4,
                "row over knit tog over slip row tog over tog knit row purl 2 tog");
        CHECKS.rowIs(x, 1, "41543", 4, 0, 1, 5, 3);
        CHECKS.rowIs(x, 2, "5451", 4, 6, 1, 3);
        CHECKS.rowIs(x, 3, "225", 4, 6, 1);
        yarnIs(x, (1 + 1 + 2 + 1) + (2 + 1 + 2 + 1) + (2 + 2), 3, 7, 0);
        CHECKS.same("the tog's second strand is gone", x.where(0, 2, 1), -1);
    }

    private static void cables() {
        CableChart x = Checks.knit(6, "row cable 2 front 3 knit row slip cable 1 back 4");
        CHECKS.rowIs(x, 1, "777661", 2, 3, 4, 0, 1, 5);
        CHECKS.rowIs(x, 2, "366667", 2, 4, 0, 1, 5, 3);
        yarnIs(x, 11 + 10, 0, 6, 2);
        CableChart y = Checks.knit(12, "row cable 6 back 6 row cable 6 front 6");
        CHECKS.rowIs(y, 1, "666666777777", 6, 7, 8, 9, 10, 11, 0, 1, 2, 3, 4, 5);
        CHECKS.rowIs(y, 2, "777777666666", 0, 1, 2, 3, 4, 5, 6, 7, 8, 9, 10, 11);
        yarnIs(y, 48, 0, 12, 2);
    }

    private static void reps() {
        CableChart x = Checks.knit(7, "row rep 2 [ knit rep 2 [ purl ] ] slip "
                + "row rep rest [ tog over ] knit row rep rest [ over knit 7 ] "
                + "row rep rest [ knit 9 ] slip rest row rep rest [ over ] purl rest");
        CHECKS.rowIs(x, 1, "1221223", 0, 1, 2, 3, 4, 5, 6);
        CHECKS.rowIs(x, 2, "5454541", 0, 7, 2, 8, 4, 9, 6);
        CHECKS.rowIs(x, 3, "41111111", 10, 0, 7, 2, 8, 4, 9, 6);
        CHECKS.rowIs(x, 4, "33333333", 10, 0, 7, 2, 8, 4, 9, 6);
        CHECKS.rowIs(x, 5, "22222222", 10, 0, 7, 2, 8, 4, 9, 6);
        CableChart y = Checks.knit(5, "row knit rep rest [ purl 2 ] row knit rep rest [ purl 4 ] "
                + "row knit rep rest [ purl 3 ] knit rest");
        CHECKS.rowIs(y, 1, "12222", 0, 1, 2, 3, 4);
        CHECKS.rowIs(y, 2, "12222", 0, 1, 2, 3, 4);
        CHECKS.rowIs(y, 3, "12221", 0, 1, 2, 3, 4);
        CableChart z = Checks.knit(60, "row rep 30 [ tog ] row rep 30 [ over knit ]");
        CHECKS.same("rows with 30 times", z.piece(0, 1), 2);
        CHECKS.same("stitches with 30 times", z.piece(0, 2), 60);
        String seven = Checks.times(7, "rep 1 [ ");
        String shut = Checks.times(7, "] ");
        CableChart deep = Checks.knit(6, "row rep 2 [ " + seven + "purl 3 " + shut + "] "
                + "row rep rest [ " + seven + "slip 2 " + shut + "] "
                + "row rep rest [ " + seven + "knit 4 " + shut + "] rep 2 [ tog ]");
        CHECKS.rowIs(deep, 1, "222222", 0, 1, 2, 3, 4, 5);
        CHECKS.rowIs(deep, 2, "333333", 0, 1, 2, 3, 4, 5);
        CHECKS.same("8 behind the depth of 8", deep.piece(0, 5), 8);
    }

    private static void fails(int cast, String row, int error) {
        CableChart x = Checks.taught("chart a row slip rest row " + row + ";piece p cast " + cast
                + " gauge 1 by 1 work a;");
        String call = "knit of " + row + " on " + cast;
        CHECKS.same(call, x.knit(0), error);
        CHECKS.same("error of " + call, x.piece(0, 5), error);
        CHECKS.same("rows of " + call, x.piece(0, 1), error == 0 ? 2 : 1);
        if (error != 0) {
            CHECKS.same("stitches of " + call, x.piece(0, 2), cast);
        }
    }

    private static void errorsOfRows() {
        fails(3, "knit 3", 0);
        fails(3, "knit 4", 8);
        fails(3, "slip 2 purl 2", 8);
        fails(3, "knit 2", 9);
        fails(3, "knit 3 tog", 8);
        fails(3, "knit 2 tog", 8);
        fails(3, "cable 2 front 2", 8);
        fails(3, "knit cable 2 back 1", 8);
        fails(3, "cable 1 back 1", 9);
        fails(3, "over", 9);
        fails(3, "rep rest [ tog ]", 9);
        fails(3, "rep rest [ over ]", 9);
        fails(3, "rep 4 [ knit ]", 8);
        fails(3, "knit rest purl rest slip rest", 0);
        fails(3, "knit rest knit", 8);
        fails(60, "knit 60", 0);
        fails(60, "over knit rest", 10);
        fails(60, "knit rest over", 10);
        fails(60, "over cable 6 front 6 knit rest", 10);
        fails(60, "rep rest [ over knit ]", 10);
        fails(3, "rep 30 [ over ] rep 30 [ over ] knit rest", 10);
        fails(3, "rep 28 [ over ] rep 29 [ over ] slip rest", 0);
    }

    /** Of several errors of one row the one that comes first, stitch by stitch. */
    private static void errorsInTheirOrder() {
        String full = "rep 30 [ over ] rep 28 [ over ] ";
        fails(2, full + "knit 3", 8);
        fails(3, full + "knit 3", 10);
        fails(3, full + "knit 4", 10);
        fails(3, full + "knit 2", 9);
        fails(2, full + "knit rest tog", 8);
        fails(3, full + "knit 2 tog", 8);
        fails(4, full + "knit 2 tog", 10);
        fails(4, full + "knit tog", 9);
        fails(4, full + "knit 2 cable 1 front 2", 8);
        fails(4, full + "knit 2 cable 1 front 1", 10);
        fails(4, full + "knit 1 cable 2 front 2", 8);
        fails(4, full + "cable 2 back 2", 10);
        fails(4, full + "over over over", 10);
        fails(4, full + "over over knit 9", 10);
        fails(4, full + "knit 60", 10);
        fails(60, "knit 59 over over", 10);
        fails(60, "knit 60 knit 60 rep 30 [ over ]", 8);
    }

    private static void tooManyRows() {
        CableChart x = Checks.taught("chart a row knit; chart b row knit row knit row knit;"
                + "chart c row tog; piece p cast 1 gauge 1 by 1 work a times 40 work a times 40;"
                + "piece q cast 1 gauge 1 by 1 work a times 40 work a times 40 work a;"
                + "piece r cast 1 gauge 1 by 1 work b times 40;"
                + "piece s cast 1 gauge 1 by 1 work a times 80 work a times 80 work c;");
        CHECKS.same("80 rows", x.knit(0), 0);
        CHECKS.same("rows", x.piece(0, 1), 80);
        CHECKS.same("the row 80", x.many(0, 80), 1);
        CHECKS.noSuch("the row 81", () -> x.many(0, 81));
        CHECKS.same("81 rows", x.knit(1), 11);
        CHECKS.same("rows", x.piece(1, 1), 80);
        CHECKS.same("yarn", x.piece(1, 3), 80);
        CHECKS.same("120 rows", x.knit(2), 11);
        CHECKS.same("rows", x.piece(2, 1), 80);
        CHECKS.same("11 comes ahead of 8", x.knit(3), 11);
        CHECKS.same("rows", x.count(3), 320);
        CHECKS.same("done", x.count(2), 1);
    }

    private static void failedRowsCountNothing() {
        CableChart x = Checks.knit(5,
                "row over cable 2 front 1 tog row over over tog cable 1 back 1 knit 9");
        CHECKS.same("error", x.piece(0, 5), 8);
        CHECKS.same("rows", x.piece(0, 1), 1);
        CHECKS.same("stitches", x.piece(0, 2), 5);
        CHECKS.same("yarn", x.piece(0, 3), 1 + 6 + 2);
        CHECKS.same("holes", x.piece(0, 4), 1);
        CHECKS.same("strands", x.piece(0, 6), 6);
        CHECKS.same("cables", x.piece(0, 7), 1);
        CHECKS.same("front", x.front(0), 0);
        CHECKS.same("crosses of the row that is there", x.crosses(0, 0, 2), 1);
        CHECKS.same("crosses of the row that is not", x.crosses(0, 1, 0), 0);
        CHECKS.noSuch("the row that is not there", () -> x.wide(0, 2));
        CHECKS.rowIs(x, 1, "47665", 5, 2, 0, 1, 3);
    }

    private static void works() {
        CableChart x = Checks.taught("chart up row over knit rest; chart down row tog slip rest;"
                + "piece p cast 6 gauge 1 by 1 work up times stitches / 3 work down times holes"
                + " when stitches > 7 and rows = 2 work up when stitches = 8 work down times rows"
                + " when yarn >= 13 + 7 + 4 or yarn < 0 - 1 work up times 0;");
        CHECKS.same("knit", x.knit(0), 0);
        CHECKS.same("rows", x.piece(0, 1), 2 + 2);
        CHECKS.same("stitches", x.piece(0, 2), 6);
        CHECKS.same("yarn", x.piece(0, 3), 7 + 8 + 2 + 2);
        CHECKS.same("knit once more", x.knit(0), 0);
        CHECKS.same("rows", x.piece(0, 1), 4);
        CHECKS.same("yarn of all", x.count(4), 19);
        CableChart y = Checks.taught("piece p cast 6 gauge 1 by 1;");
        CHECKS.same("knit without works", y.knit(0), 0);
        CHECKS.same("rows", y.piece(0, 1), 0);
        CHECKS.same("the cast on", y.many(0, 0), 6);
        CHECKS.same("done", y.count(2), 1);
    }

    private static void dones() {
        CableChart x = Checks.taught("chart a row knit 4; piece p cast 4 gauge 1 by 1 work a;"
                + "piece q cast 4 gauge 1 by 1 work a when done p;"
                + "piece r cast 4 gauge 1 by 1 work a when done p and not done q;");
        CHECKS.same("q ahead of p", x.knit(1), 0);
        CHECKS.same("rows", x.piece(1, 1), 0);
        x.knit(0);
        CHECKS.same("q stays till it is knit", x.piece(1, 1), 0);
        x.knit(1);
        CHECKS.same("q behind p", x.piece(1, 1), 1);
        x.cast(1, 4);
        x.knit(2);
        CHECKS.same("r, q being cast on anew", x.piece(2, 1), 1);
        x.cast(0, 5);
        x.knit(1);
        CHECKS.same("q, p being cast on anew", x.piece(1, 1), 0);
        CHECKS.same("p with an error", x.knit(0), 9);
        x.knit(1);
        CHECKS.same("q, p having an error", x.piece(1, 1), 0);
        CHECKS.same("would of q", x.would(1, 4, 1), 0);
        x.cast(0, 4);
        x.knit(0);
        CHECKS.same("would of q", x.would(1, 4, 1), 1);
    }

    private static void casting() {
        CableChart x = Checks.taught("chart a row over knit rest;"
                + "piece p cast 5 gauge 3 by 4 work a; piece q cast 7 gauge 5 by 6 work a;");
        CHECKS.same("cast", x.cast(0, 60), 5);
        CHECKS.same("cast again", x.cast(0, 1), 60);
        CHECKS.same("cast of the same", x.cast(0, 1), 1);
        CHECKS.same("stitches to cast on", x.piece(0, 0), 1);
        CHECKS.same("of the other one", x.piece(1, 0), 7);
        x.knit(0);
        CHECKS.same("stitches", x.piece(0, 2), 2);
        CHECKS.same("cast of a piece that is knit", x.cast(0, 1), 1);
        CHECKS.same("error of a piece that is gone", x.piece(0, 5), -1);
        for (int what : new int[] {1, 2, 3, 4, 6, 7}) {
            CHECKS.same("piece(0, " + what + ") of it", x.piece(0, what), 0);
        }
        CHECKS.noSuch("row 0 of it", () -> x.many(0, 0));
        CHECKS.same("rows of all", x.count(3), 0);
        x.knit(0);
        for (int bad : new int[] {0, 61, -1, Integer.MIN_VALUE, Integer.MAX_VALUE}) {
            CHECKS.illegal("cast(0, " + bad + ")", () -> x.cast(0, bad));
            CHECKS.noSuch("cast(2, " + bad + ")", () -> x.cast(2, bad));
        }
        CHECKS.same("a refused cast leaves the piece", x.piece(0, 5), 0);
        CHECKS.same("and its stitches to cast on", x.piece(0, 0), 1);
    }

    private static void numbersOfPieces() {
        CableChart x = Checks.taught("chart a row over cable 1 front 1 knit rest row cable 1 back 2"
                + " slip rest; piece p cast 5 gauge 3 by 4 work a times 2;");
        int[] unknit = {5, 0, 0, 0, 0, -1, 0, 0};
        int[] knit = {5, 4, 7, (1 + 4 + 3) + 6 + (1 + 4 + 4) + 6, 2, 0, 7, 4};
        for (int what = 0; what < 8; what++) {
            CHECKS.same("unknit piece(0, " + what + ")", x.piece(0, what), unknit[what]);
        }
        for (int what = 0; what < 8; what++) {
            x.knit(0);
            CHECKS.same("piece(0, " + what + ")", x.piece(0, what), knit[what]);
        }
    }

    private static void wheres() {
        CableChart x = Checks.knit(4, "row cable 1 front 3 row over tog knit rest");
        CHECKS.same("0 in row 0", x.where(0, 0, 0), 0);
        CHECKS.same("3 in row 0", x.where(0, 3, 0), 3);
        CHECKS.same("4 in row 0", x.where(0, 4, 0), -1);
        CHECKS.same("0 in row 1", x.where(0, 0, 1), 3);
        CHECKS.same("1 in row 1", x.where(0, 1, 1), 0);
        CHECKS.same("4 in row 2", x.where(0, 4, 2), 0);
        CHECKS.same("2 in row 2", x.where(0, 2, 2), -1);
        for (int none : new int[] {-1, 5, 60, Integer.MIN_VALUE, Integer.MAX_VALUE}) {
            CHECKS.same(none + " in row 2", x.where(0, none, 2), -1);
        }
    }

    private static void crossings() {
        CableChart x = Checks.knit(6, "row cable 1 front 2 cable 2 back 1 "
                + "row cable 2 back 1 cable 1 front 2 row slip rest row slip 6 "
                + "row cable 1 front 2 cable 1 front 2");
        // row 1: 1 2 0 | 5 3 4, row 2: 0 1 2 | 3 4 5, row 5: 1 2 0 | 4 5 3
        CHECKS.rowIs(x, 5, "776776", 1, 2, 0, 4, 5, 3);
        int[][] due = new int[6][6];
        due[0][1] = 3;
        due[0][2] = 3;
        due[5][3] = 2;
        due[5][4] = 2;
        due[3][4] = 1;
        due[3][5] = 1;
        // in row 2 the 0 crosses in front of the held 1 and 2, and the held 5 of 3 and 4
        for (int a = 0; a < 6; a++) {
            for (int b = 0; b < 6; b++) {
                CHECKS.same("crosses of " + a + ", " + b, x.crosses(0, a, b), due[a][b]);
            }
        }
        CHECKS.same("front", x.front(0), 0);
        for (int none : new int[] {-1, 6, 4860, Integer.MIN_VALUE, Integer.MAX_VALUE}) {
            CHECKS.same("crosses of 0, " + none, x.crosses(0, 0, none), 0);
            CHECKS.same("crosses of " + none + ", 0", x.crosses(0, none, 0), 0);
            CHECKS.same("crosses of " + none + " twice", x.crosses(0, none, none), 0);
        }
        CableChart y = Checks.taught("chart a row cable 1 front 1; piece p cast 2 gauge 1 by 1"
                + " work a times 20;");
        CHECKS.same("crosses of an unknit piece", y.crosses(0, 0, 1), 0);
        y.knit(0);
        CHECKS.same("crosses of 0, 1", y.crosses(0, 0, 1), 10);
        CHECKS.same("crosses of 1, 0", y.crosses(0, 1, 0), 10);
        y.cast(0, 2);
        CHECKS.same("crosses of a piece that is gone", y.crosses(0, 0, 1), 0);
    }

    private static void fronts() {
        CHECKS.same("front without cables", Checks.knit(4, "row knit 4").front(0), -1);
        CHECKS.same("front of two at once", Checks.knit(4, "row cable 2 front 2").front(0), 0);
        CHECKS.same("front of the others", Checks.knit(4, "row cable 2 back 2").front(0), 2);
        CHECKS.same("front counts each other one",
                Checks.knit(7, "row cable 2 front 1 cable 1 front 3").front(0), 3);
        CHECKS.same("of several the smallest number",
                Checks.knit(6,
                        "row cable 2 back 1 cable 2 back 1 row rep 2 [ cable 1 back 2 ]").front(0),
                2);
        CHECKS.same("front by several cables", Checks.knit(5,
                "row slip cable 1 front 1 cable 1 front 1 "
                + "row slip 2 cable 1 front 1 slip row slip 3 cable 1 back 1").front(0), 1);
        CHECKS.same("front of a strand of an over",
                Checks.knit(3, "row over slip rest row cable 1 front 3").front(0), 3);
        CableChart x = Checks.taught("chart a row cable 1 front 1; piece p cast 2 gauge 1 by 1"
                + " work a; piece q cast 2 gauge 1 by 1;");
        CHECKS.same("front of an unknit piece", x.front(0), -1);
        x.knit(0);
        x.knit(1);
        CHECKS.same("front of a knit piece", x.front(0), 0);
        CHECKS.same("front of the other one", x.front(1), -1);
        CHECKS.same("front once more", x.front(0), 0);
    }

    private static void gauges() {
        CableChart x = Checks.taught("chart a row cable 1 front 1 cable 2 front 2 slip rest"
                + " row over slip rest row tog slip rest;"
                + "piece p cast 11 gauge 7 by 9 work a; piece q cast 60 gauge 40 by 40;"
                + "piece r cast 60 gauge 1 by 1 work a times 26; piece s cast 59 gauge 3 by 7"
                + " work a times 40;");
        CHECKS.same("height of an unknit piece", x.high(0), 0);
        x.knit(0);
        CHECKS.same("width of row 0", x.wide(0, 0), 157);
        CHECKS.same("width of a row with two cables", x.wide(0, 1), 1040 / 7);
        CHECKS.same("width of row 2", x.wide(0, 2), 1200 / 7);
        CHECKS.same("width of row 3", x.wide(0, 3), 157);
        CHECKS.same("height", x.high(0), 33);
        x.knit(1);
        CHECKS.same("width", x.wide(1, 0), 150);
        CHECKS.same("height of a cast on", x.high(1), 0);
        CHECKS.same("an error 10", x.knit(2), 10);
        CHECKS.same("width", x.wide(2, 1), 6000 - 60);
        CHECKS.same("height", x.high(2), 100);
        CHECKS.same("an error 11", x.knit(3), 11);
        CHECKS.same("height", x.high(3), 8000 / 7);
        CHECKS.same("width", x.wide(3, 79), 5840 / 3);
        CHECKS.same("width", x.wide(3, 80), 2000);
    }

    private static void refusals() {
        CableChart x = Checks.taught("chart a row cable 1 front 2; piece p cast 3 gauge 1 by 1"
                + " work a; piece q cast 3 gauge 1 by 1 work a;");
        x.knit(0);
        long digest = x.digest();
        for (int bad : new int[] {-1, 2, 3, 4, Integer.MIN_VALUE, Integer.MAX_VALUE}) {
            CHECKS.noSuch("knit(" + bad + ")", () -> x.knit(bad));
            CHECKS.noSuch("cast(" + bad + ", 1)", () -> x.cast(bad, 1));
            CHECKS.noSuch("piece(" + bad + ", 0)", () -> x.piece(bad, 0));
            CHECKS.noSuch("stitch(" + bad + ", 0, 0, 0)", () -> x.stitch(bad, 0, 0, 0));
            CHECKS.noSuch("stitch(0, " + bad + ", 0, 0)", () -> x.stitch(0, bad, 0, 0));
            CHECKS.noSuch("stitch(0, 0, 0, " + bad + ")", () -> x.stitch(0, 0, 0, bad));
            CHECKS.noSuch("many(" + bad + ", 0)", () -> x.many(bad, 0));
            CHECKS.noSuch("many(0, " + bad + ")", () -> x.many(0, bad));
            CHECKS.noSuch("where(" + bad + ", 0, 0)", () -> x.where(bad, 0, 0));
            CHECKS.noSuch("where(0, 0, " + bad + ")", () -> x.where(0, 0, bad));
            CHECKS.noSuch("crosses(" + bad + ", 0, 1)", () -> x.crosses(bad, 0, 1));
            CHECKS.noSuch("wide(" + bad + ", 0)", () -> x.wide(bad, 0));
            CHECKS.noSuch("wide(0, " + bad + ")", () -> x.wide(0, bad));
            CHECKS.noSuch("high(" + bad + ")", () -> x.high(bad));
            CHECKS.noSuch("front(" + bad + ")", () -> x.front(bad));
        }
        for (int bad : new int[] {-1, 3, 60, Integer.MIN_VALUE, Integer.MAX_VALUE}) {
            CHECKS.noSuch("stitch(0, 1, " + bad + ", 1)", () -> x.stitch(0, 1, bad, 1));
        }
        for (int bad : new int[] {-1, 8, Integer.MIN_VALUE, Integer.MAX_VALUE}) {
            CHECKS.noSuch("piece(0, " + bad + ")", () -> x.piece(0, bad));
        }
        CHECKS.noSuch("stitch of an unknit piece", () -> x.stitch(1, 0, 0, 0));
        CHECKS.noSuch("many of an unknit piece", () -> x.many(1, 0));
        CHECKS.noSuch("where of an unknit piece", () -> x.where(1, 0, 0));
        CHECKS.noSuch("wide of an unknit piece", () -> x.wide(1, 0));
        CHECKS.same("digest behind refused calls", x.digest(), digest);
    }
}
