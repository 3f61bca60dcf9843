/** The edges that "2. Knitting" names: stitches, reps, works, errors 8 to 11, tests and sums. */
public final class StitchesTest {
    private static final Checks CHECKS = new Checks("StitchesTest");
    private static final String PLAIN = "chart a row slip rest; chart o row over slip rest;"
            + "chart k row knit rest; chart d row tog slip rest; chart x row tog slip 57;";

    public static void main(String[] args) {
        tillItIsKnit();
        theCastOn();
        plainStitches();
        restWithNoStitchLeft();
        overs();
        togs();
        cables();
        repsOfANumber();
        repsWithRest();
        repsThatTakeNone();
        yarnOfEachSort();
        takesMoreThanAreLeft();
        leavesSome();
        more61stStitch();
        the81stRow();
        errorsStitchByStitch();
        error9BehindAllStitches();
        error11AheadOfAll();
        nothingOfARowWithError8();
        nothingOfARowWithError9();
        nothingOfARowWithError10();
        nothingOfTheRow81();
        theKnittingEndsWithAnError();
        timesHeld();
        timesAsAWorkBegins();
        testsAsAWorkBegins();
        doneHolds();
        orderOfTests();
        CHECKS.finish();
    }

    private static void numbersAre(CableChart x, int... due) {
        for (int what = 1; what < 8; what++) {
            CHECKS.same("piece(0, " + what + ")", x.piece(0, what), due[what - 1]);
        }
    }

    // "A piece is knit when it is asked for; till then it has no row."

    private static void tillItIsKnit() {
        CableChart x = Checks.taught(PLAIN + "piece p cast 3 gauge 1 by 1 work a;");
        numbersAre(x, 0, 0, 0, 0, -1, 0, 0);
        CHECKS.noSuchIn(x, "row 0", () -> x.many(0, 0));
        CHECKS.noSuchIn(x, "a stitch of row 0", () -> x.stitch(0, 0, 0, 0));
        x.knit(0);
        CHECKS.same("row 0 when it is knit", x.many(0, 0), 3);
        CHECKS.same("row 1 when it is knit", x.many(0, 1), 3);
        CHECKS.noSuchIn(x, "row 2", () -> x.many(0, 2));
    }

    // "Its row 0 is cast on: as many stitches as is told, with the strands 0, 1, and so on, of
    // the sort 0."

    private static void theCastOn() {
        for (int stitches : new int[] {1, 2, 59, 60}) {
            CableChart x = Checks.taught("piece p cast " + stitches + " gauge 1 by 1;");
            CHECKS.same("knit without works", x.knit(0), 0);
            CHECKS.same("stitches of the cast on", x.many(0, 0), stitches);
            for (int i = 0; i < stitches; i++) {
                CHECKS.same("sort of " + i, x.stitch(0, 0, i, 0), 0);
                CHECKS.same("strand of " + i, x.stitch(0, 0, i, 1), i);
            }
            CHECKS.noSuchIn(x, "one more", () -> x.stitch(0, 0, stitches, 0));
            numbersAre(x, 0, stitches, 0, 0, 0, stitches, 0);
        }
    }

    // "knit, purl and slip take as many stitches as their number (1 without one; with rest all
    // that are left in the row) one by one, and give each back with its strand"

    private static void plainStitches() {
        CableChart x = Checks.knit(6, "row knit purl slip knit 1 purl 1 slip 1"
                + " row knit 3 purl rest row slip 6 row purl knit 5");
        CHECKS.rowIs(x, 1, "123123", 0, 1, 2, 3, 4, 5);
        CHECKS.rowIs(x, 2, "111222", 0, 1, 2, 3, 4, 5);
        CHECKS.rowIs(x, 3, "333333", 0, 1, 2, 3, 4, 5);
        CHECKS.rowIs(x, 4, "211111", 0, 1, 2, 3, 4, 5);
        CableChart y = Checks.knit(60, "row knit 60 row purl rest row slip 60");
        CHECKS.same("rows of 60", y.piece(0, 1), 3);
        CHECKS.same("the last stitch of 60", y.stitch(0, 3, 59, 1), 59);
    }

    private static void restWithNoStitchLeft() {
        CableChart x = Checks.knit(3, "row knit rest knit rest row purl rest purl rest"
                + " row slip rest slip rest row knit 3 slip rest purl rest knit rest"
                + " row slip rest rep rest [ knit ] row knit 3 rep rest [ tog ] slip rest"
                + " row knit rest over slip rest");
        CHECKS.same("error", x.piece(0, 5), 0);
        CHECKS.rowIs(x, 1, "111", 0, 1, 2);
        CHECKS.rowIs(x, 2, "222", 0, 1, 2);
        CHECKS.rowIs(x, 3, "333", 0, 1, 2);
        CHECKS.rowIs(x, 4, "111", 0, 1, 2);
        CHECKS.rowIs(x, 5, "333", 0, 1, 2);
        CHECKS.rowIs(x, 6, "111", 0, 1, 2);
        CHECKS.rowIs(x, 7, "1114", 0, 1, 2, 3);
        CHECKS.same("yarn", x.piece(0, 3), 3 + 3 + 0 + 3 + 0 + 3 + 4);
    }

    // "over takes none, and gives one with a new strand: the number that is next (that of the
    // cast on, at first); of the sort 4: it is a hole."

    private static void overs() {
        CableChart x = Checks.knit(1, "row over knit over row over tog over knit over");
        CHECKS.rowIs(x, 1, "414", 1, 0, 2);
        CHECKS.rowIs(x, 2, "45414", 3, 1, 4, 2, 5);
        numbersAre(x, 2, 5, 3 + 6, 5, 0, 6, 0);
        CableChart y = Checks.knit(59, "row knit rest over row tog over slip rest");
        CHECKS.same("the strand of a 60th stitch", y.stitch(0, 1, 59, 1), 59);
        CHECKS.same("the one that is next", y.stitch(0, 2, 1, 1), 60);
        CHECKS.same("where it is", y.where(0, 60, 2), 1);
    }

    // "tog takes two, and gives one with the strand of the first one; of the sort 5."

    private static void togs() {
        CableChart x = Checks.knit(4, "row tog tog row tog row over slip row tog");
        CHECKS.rowIs(x, 1, "55", 0, 2);
        CHECKS.rowIs(x, 2, "5", 0);
        CHECKS.rowIs(x, 4, "5", 4);
        numbersAre(x, 4, 1, 4 + 2 + 1 + 2, 1, 0, 5, 0);
        CHECKS.same("tog of one", Checks.knit(1, "row tog").piece(0, 5), 8);
    }

    // "cable takes as many as both its numbers, added. .."

    private static void cables() {
        CableChart x = Checks.knit(2, "row cable 1 front 1 row cable 1 back 1");
        CHECKS.rowIs(x, 1, "76", 1, 0);
        CHECKS.rowIs(x, 2, "67", 0, 1);
        numbersAre(x, 2, 2, 8, 0, 0, 2, 2);
        CableChart y = Checks.knit(12, "row cable 6 front 6 row cable 6 back 6");
        CHECKS.rowIs(y, 1, "777777666666", 6, 7, 8, 9, 10, 11, 0, 1, 2, 3, 4, 5);
        CHECKS.rowIs(y, 2, "666666777777", 0, 1, 2, 3, 4, 5, 6, 7, 8, 9, 10, 11);
        numbersAre(y, 2, 12, 48, 0, 0, 12, 2);
        CableChart z = Checks.knit(7, "row cable 1 front 6 row cable 1 back 6 row cable 6 front 1"
                + " row cable 6 back 1");
        CHECKS.rowIs(z, 1, "7777776", 1, 2, 3, 4, 5, 6, 0);
        CHECKS.rowIs(z, 2, "6666667", 2, 3, 4, 5, 6, 0, 1);
        CHECKS.rowIs(z, 3, "7666666", 1, 2, 3, 4, 5, 6, 0);
        CHECKS.rowIs(z, 4, "6777777", 0, 1, 2, 3, 4, 5, 6);
        CableChart full = Checks.knit(60, "row rep 30 [ cable 1 back 1 ]");
        numbersAre(full, 1, 60, 120, 0, 0, 60, 30);
        CHECKS.same("crosses of the last of 30 cables", full.crosses(0, 59, 58), 1);
        CHECKS.same("crosses of two cables", full.crosses(0, 59, 57), 0);
        CHECKS.same("crosses of the first and the last", full.crosses(0, 1, 58), 0);
    }

    // "rep works what is in its brackets as often as its number"

    private static void repsOfANumber() {
        CableChart x = Checks.knit(3, "row rep 1 [ knit 3 ] row rep 3 [ purl ]"
                + " row rep 1 [ rep 1 [ slip ] rep 2 [ knit ] ] row rep 2 [ over ] slip rest");
        CHECKS.rowIs(x, 1, "111", 0, 1, 2);
        CHECKS.rowIs(x, 2, "222", 0, 1, 2);
        CHECKS.rowIs(x, 3, "311", 0, 1, 2);
        CHECKS.rowIs(x, 4, "44333", 3, 4, 0, 1, 2);
        CHECKS.same("30 times 2", Checks.knit(60, "row rep 30 [ knit 2 ]").piece(0, 5), 0);
        CHECKS.same("one too many", Checks.knit(59, "row rep 30 [ knit 2 ]").piece(0, 5), 8);
        CHECKS.same("6 times 5 times 2", Checks.knit(60, "row rep 6 [ rep 5 [ knit slip ] ]")
                .piece(0, 5), 0);
    }

    // "with rest again and again, as long as there are as many stitches left in the row as it
    // takes (not at all, if it takes none)"

    private static void repsWithRest() {
        String third = "row rep rest [ knit tog over ]";
        CHECKS.rowIs(Checks.knit(3, third), 1, "154", 0, 1, 3);
        CHECKS.rowIs(Checks.knit(6, third), 1, "154154", 0, 1, 6, 3, 4, 7);
        CHECKS.same("one left", Checks.knit(4, third).piece(0, 5), 9);
        CHECKS.same("two left", Checks.knit(5, third).piece(0, 5), 9);
        CHECKS.rowIs(Checks.knit(5, third + " purl rest"), 1, "15422", 0, 1, 5, 3, 4);
        CHECKS.rowIs(Checks.knit(2, third + " purl rest"), 1, "22", 0, 1);
        CHECKS.rowIs(Checks.knit(4, "row slip " + third.substring(4)), 1, "3154", 0, 1, 2, 4);
        CHECKS.rowIs(Checks.knit(5, "row rep rest [ cable 2 front 2 ] knit"), 1, "77661", 2, 3, 0,
                1, 4);
        CHECKS.rowIs(Checks.knit(3, "row rep rest [ cable 2 front 2 ] knit 3"), 1, "111", 0, 1, 2);
        CHECKS.same("60 by one", Checks.knit(60, "row rep rest [ knit ]").piece(0, 2), 60);
        CHECKS.same("60 by 60", Checks.knit(60, "row rep rest [ knit 60 ]").piece(0, 2), 60);
        CHECKS.same("59 by 60", Checks.knit(59, "row rep rest [ knit 60 ]").piece(0, 5), 9);
        CHECKS.same("by more than there can be", Checks.knit(60, "row rep rest [ rep 30 [ knit 60 ]"
                + " ] slip rest").piece(0, 3), 0);
        CHECKS.rowIs(Checks.knit(5, "row rep rest [ rep 2 [ tog ] ] slip"), 1, "553", 0, 2, 4);
    }

    private static void repsThatTakeNone() {
        CHECKS.rowIs(Checks.knit(2, "row rep rest [ over ] slip rest"), 1, "33", 0, 1);
        CHECKS.rowIs(Checks.knit(2, "row slip rest rep rest [ over over ]"), 1, "33", 0, 1);
        CHECKS.rowIs(Checks.knit(2, "row knit rep rest [ rep 3 [ over ] ] knit"), 1, "11", 0, 1);
        CHECKS.rowIs(Checks.knit(2, "row rep rest [ rep 2 [ over rep 2 [ over ] ] over ] slip 2"),
                1, "33", 0, 1);
        CHECKS.same("and leaves all", Checks.knit(2, "row rep rest [ over ]").piece(0, 5), 9);
        CHECKS.same("strands of it", Checks.knit(2, "row rep rest [ over ] slip 2").piece(0, 6), 2);
    }

    // "Yarn: 1 for each stitch knit, purled or put over, 2 for each tog, and 2 for each stitch
    // of a cable; none for those that are slipped and cast on."

    private static void yarnOfEachSort() {
        String[] rows = {"knit rest", "purl rest", "slip rest", "over slip rest", "tog slip rest",
            "cable 1 front 2 slip rest", "cable 6 back 1 slip rest", "rep rest [ knit ]",
            "over knit purl slip tog cable 1 back 1"};
        int[] due = {7, 7, 0, 1, 2, 6, 14, 7, 1 + 1 + 1 + 2 + 4};
        for (int i = 0; i < rows.length; i++) {
            CHECKS.same("yarn of " + rows[i], Checks.knit(7, "row " + rows[i]).piece(0, 3), due[i]);
            CHECKS.same("yarn twice of it", Checks.knit(7, "row " + rows[i] + " row slip rest")
                    .piece(0, 3), due[i]);
        }
        CHECKS.same("yarn of a cast on", Checks.taught("piece p cast 60 gauge 1 by 1;").knit(0), 0);
    }

    private static void ends(int cast, String row, int error) {
        CableChart x = Checks.taught("chart a row " + row + ";piece p cast " + cast
                + " gauge 1 by 1 work a;");
        CHECKS.same("knit of " + row + " on " + cast, x.knit(0), error);
        CHECKS.same("rows of it", x.piece(0, 1), error == 0 ? 1 : 0);
        if (error != 0) {
            numbersAre(x, 0, cast, 0, 0, error, cast, 0);
            CHECKS.noSuchIn(x, "the row of it", () -> x.many(0, 1));
        }
    }

    // "8: takes more stitches than are left (it is not there then)"

    private static void takesMoreThanAreLeft() {
        String[] stitches = {"knit 4", "purl 4", "slip 4", "tog tog", "cable 2 front 2",
            "cable 1 back 3", "cable 3 back 1", "rep 4 [ knit ]", "rep 2 [ purl slip ]",
            "rep 1 [ rep 2 [ tog ] ]"};
        for (String stitch : stitches) {
            ends(4, stitch, 0);
            ends(3, stitch, 8);
            ends(4, "over " + stitch, 0);
            ends(3, "over " + stitch, 8);
            ends(4, stitch + " over", 0);
            ends(1, stitch, 8);
        }
        for (String one : new String[] {"knit", "purl", "slip", "tog", "cable 1 front 1"}) {
            ends(2, "slip rest " + one, 8);
            ends(2, "over over slip 2 " + one, 8);
        }
        ends(60, "slip 60 knit", 8);
        ends(12, "cable 6 front 6", 0);
        ends(11, "cable 6 front 6", 8);
    }

    // "9: leaves some of them (nor is it then)"

    private static void leavesSome() {
        ends(4, "knit 3", 9);
        ends(4, "tog", 9);
        ends(3, "tog", 9);
        ends(2, "tog", 0);
        ends(4, "over", 9);
        ends(4, "over over over over", 9);
        ends(3, "cable 1 front 1", 9);
        ends(13, "cable 6 front 6", 9);
        ends(60, "knit 59", 9);
        ends(60, "knit 59 slip", 0);
        ends(1, "over", 9);
        ends(4, "rep 3 [ knit ]", 9);
        ends(4, "rep rest [ knit 3 ]", 9);
    }

    // "10: would have more than 60 stitches (nor then)"

    private static void more61stStitch() {
        ends(59, "knit rest over", 0);
        ends(60, "knit rest over", 10);
        ends(59, "over knit rest", 0);
        ends(60, "over knit rest", 10);
        ends(60, "over purl rest", 10);
        ends(60, "over slip rest", 10);
        ends(60, "over tog slip rest", 0);
        ends(60, "over over tog slip rest", 10);
        ends(60, "over tog tog over over over slip rest", 10);
        ends(2, "rep 30 [ over ] rep 29 [ over ] tog", 0);
        ends(2, "rep 30 [ over ] rep 30 [ over ] tog", 10);
        ends(2, "rep 30 [ over ] rep 28 [ over ] cable 1 front 1", 0);
        ends(2, "rep 30 [ over ] rep 29 [ over ] cable 1 front 1", 10);
        ends(2, "rep 30 [ over ] rep 29 [ over ] cable 1 back 1", 10);
        ends(2, "rep 30 [ over ] rep 30 [ over ] cable 1 back 1", 10);
        ends(30, "rep rest [ over knit ]", 0);
        ends(31, "rep rest [ over knit ]", 10);
        ends(1, "rep 30 [ rep 30 [ rep 30 [ over ] ] ] knit", 10);
    }

    // "11: would be the 81st, the row 0 not counted (nor then)"

    private static void the81stRow() {
        CableChart x = Checks.taught(PLAIN + "piece p cast 2 gauge 1 by 1 work k times 40"
                + " work k times 40; piece q cast 2 gauge 1 by 1 work k times 40 work k times 39"
                + " work k work k; piece r cast 2 gauge 1 by 1 work k times 40 work k times 39;");
        CHECKS.same("80 rows", x.knit(0), 0);
        numbersAre(x, 80, 2, 160, 0, 0, 2, 0);
        CHECKS.same("the row 80", x.many(0, 80), 2);
        CHECKS.noSuchIn(x, "the row 81", () -> x.many(0, 81));
        CHECKS.same("81 rows", x.knit(1), 11);
        CHECKS.same("rows of it", x.piece(1, 1), 80);
        CHECKS.same("the last one", x.stitch(1, 80, 1, 1), 1);
        CHECKS.noSuchIn(x, "its row 81", () -> x.stitch(1, 81, 0, 1));
        CHECKS.same("79 rows", x.knit(2), 0);
        CHECKS.noSuchIn(x, "the row 80 of 79", () -> x.many(2, 80));
        CHECKS.same("would of 81 rows", x.would(1, 60, 0), 11);
        CHECKS.same("rows of it", x.would(1, 60, 1), 80);
    }

    // "of several errors of one row the one that comes first, stitch by stitch (knit, purl and
    // slip take and give one by one; a tog and a cable take all their stitches ahead of giving;
    // 10 as the 61st stitch is given, ..)"

    private static void errorsStitchByStitch() {
        String full = "rep 30 [ over ] rep 30 [ over ] ";
        String nearly = "rep 30 [ over ] rep 29 [ over ] ";
        for (String sort : new String[] {"knit", "purl", "slip"}) {
            ends(1, full + sort + " 2", 10);
            ends(1, nearly + sort + " 2", 8);
            ends(2, nearly + sort + " 3", 10);
            ends(1, nearly + sort + " " + sort + " 60", 8);
            ends(60, "over " + sort + " 60 " + sort, 10);
            ends(60, sort + " 60 " + sort + " over", 8);
            ends(60, sort + " 60 over " + sort, 10);
        }
        ends(1, full + "tog", 8);
        ends(2, full + "tog", 10);
        ends(1, nearly + "tog over", 8);
        ends(1, full + "cable 1 front 1", 8);
        ends(2, full + "cable 1 front 1", 10);
        ends(11, full + "cable 6 back 6", 8);
        ends(12, full + "cable 6 back 6", 10);
        ends(12, nearly + "cable 6 front 6 knit", 10);
        ends(1, full + "over knit 60", 10);
        ends(1, full + "knit rest", 10);
        ends(1, "knit " + full + "tog", 10);
        ends(1, "knit " + nearly + "tog over over", 8);
    }

    // "9 behind all stitches"

    private static void error9BehindAllStitches() {
        String full = "rep 30 [ over ] rep 30 [ over ] ";
        ends(1, full, 9);
        ends(1, full + "over", 10);
        ends(3, full + "tog", 10);
        ends(3, "rep 30 [ over ] rep 29 [ over ] tog", 9);
        ends(3, "tog tog", 8);
        ends(5, "tog tog", 9);
        ends(3, "cable 1 front 3 over", 8);
        ends(60, "over knit 60", 10);
        ends(60, "over knit 58", 9);
    }

    // "11 ahead of all"

    private static void error11AheadOfAll() {
        String[] rows = {"row tog", "row over", "row rep 30 [ over ] rep 30 [ over ] knit 60",
            "row slip rest"};
        int[] ahead = {8, 9, 10, 0};
        for (int i = 0; i < rows.length; i++) {
            CableChart x = Checks.taught("chart a row slip rest; chart b " + rows[i] + ";"
                    + "piece p cast 1 gauge 1 by 1 work a times 40 work a times 40 work b;"
                    + "piece q cast 1 gauge 1 by 1 work a times 40 work a times 39 work b;");
            CHECKS.same("the row 81 " + rows[i], x.knit(0), 11);
            CHECKS.same("the row 80 " + rows[i], x.knit(1), ahead[i]);
            CHECKS.same("rows of it", x.piece(1, 1), ahead[i] == 0 ? 80 : 79);
        }
    }

    // "Nothing of such a row counts: no yarn, no holes, no strands, no cables."

    private static void nothingCounts(String row, int error) {
        CableChart x = Checks.knit(4, "row over cable 2 front 1 knit row " + row);
        numbersAre(x, 1, 5, 1 + 6 + 1, 1, error, 5, 1);
        CHECKS.rowIs(x, 1, "47661", 4, 2, 0, 1, 3);
        CHECKS.noSuchIn(x, "the row of " + row, () -> x.many(0, 2));
        CHECKS.noSuchIn(x, "its width", () -> x.wide(0, 2));
        CHECKS.noSuchIn(x, "where it is", () -> x.where(0, 0, 2));
        CHECKS.same("height", x.high(0), 3);
        CHECKS.same("crosses that are there", x.crosses(0, 0, 2), 1);
        CHECKS.same("crosses that are not", x.crosses(0, 4, 2), 0);
        CHECKS.same("front", x.front(0), 0);
        CHECKS.same("rows of all", x.count(3), 1);
        CHECKS.same("yarn of all", x.count(4), 8);
        CHECKS.same("holes of all", x.count(5), 1);
        CHECKS.same("done", x.count(2), 0);
        CHECKS.same("mean", x.mean(), 8.0);
        CHECKS.same("rows that would be", x.would(0, 4, 1), 1);
        CHECKS.same("yarn that would be", x.would(0, 4, 3), 8);
        CHECKS.same("stitches that would be", x.would(0, 4, 2), 5);
    }

    private static void nothingOfARowWithError8() {
        nothingCounts("over cable 1 front 3 over knit 2", 8);
        nothingCounts("over cable 1 front 3 tog", 8);
        nothingCounts("cable 1 front 3 over cable 1 back 1", 8);
    }

    private static void nothingOfARowWithError9() {
        nothingCounts("over cable 1 front 3 over", 9);
        nothingCounts("cable 1 front 3", 9);
    }

    private static void nothingOfARowWithError10() {
        nothingCounts("cable 1 front 3 knit rep 30 [ over ] rep 26 [ over ]", 10);
        nothingCounts("cable 1 front 3 rep 30 [ over ] rep 26 [ over ] slip rest", 10);
        nothingCounts("rep 30 [ over ] rep 27 [ over ] cable 1 front 3 knit", 10);
    }

    private static void nothingOfTheRow81() {
        CableChart x = Checks.taught(PLAIN + "chart c row cable 1 front 1 over slip rest;"
                + "piece p cast 3 gauge 1 by 1 work a times 40 work a times 40 work c;");
        CHECKS.same("error", x.knit(0), 11);
        numbersAre(x, 80, 3, 0, 0, 11, 3, 0);
        CHECKS.same("crosses", x.crosses(0, 0, 1), 0);
        CHECKS.same("front", x.front(0), -1);
    }

    // "The knitting ends with an error" .. "It has error 0, if it comes to the end."

    private static void theKnittingEndsWithAnError() {
        CableChart x = Checks.taught(PLAIN + "piece p cast 3 gauge 1 by 1 work d times 5 work a"
                + " work o;");
        CHECKS.same("error in the midst of times", x.knit(0), 8);
        numbersAre(x, 2, 1, 4, 0, 8, 3, 0);
        CableChart y = Checks.taught("chart a row knit 2 row tog row tog row over slip;"
                + "chart b row over slip rest; piece p cast 2 gauge 1 by 1 work a work b;");
        CHECKS.same("error in the midst of a chart", y.knit(0), 8);
        numbersAre(y, 2, 1, 4, 0, 8, 2, 0);
        CableChart z = Checks.taught(PLAIN + "piece p cast 3 gauge 1 by 1 work d times 2 work a"
                + " work o;");
        CHECKS.same("none", z.knit(0), 0);
        numbersAre(z, 4, 2, 5, 1, 0, 4, 0);
    }

    private static int rowsOf(String works) {
        CableChart x = Checks.taught(PLAIN + "piece p cast 4 gauge 1 by 1 " + works + ";");
        CHECKS.same("knit of " + works, x.knit(0), 0);
        return x.piece(0, 1);
    }

    // "as often as times tells as it begins (once without it; held at 0 to 40)"

    private static void timesHeld() {
        CHECKS.same("without times", rowsOf("work a"), 1);
        String[] sums = {"0", "1", "2", "39", "40", "41", "999999", "-1", "-40", "-999999",
            "65536 * 32768", "65536 * 32767 + 65535", "40 + 1", "0 - 1", "1 / 0", "--1"};
        int[] due = {0, 1, 2, 39, 40, 40, 40, 0, 0, 0, 0, 40, 40, 0, 0, 1};
        for (int i = 0; i < sums.length; i++) {
            CHECKS.same("times " + sums[i], rowsOf("work a times " + sums[i]), due[i]);
            CHECKS.same("times " + sums[i] + " with a test that holds",
                    rowsOf("work a times " + sums[i] + " when 1 = 1"), due[i]);
            CHECKS.same("times " + sums[i] + " with one that does not",
                    rowsOf("work a times " + sums[i] + " when 1 = 2"), 0);
        }
        CHECKS.same("a test that holds", rowsOf("work a when 1 = 1"), 1);
        CHECKS.same("one that does not", rowsOf("work a when 1 = 2"), 0);
        CHECKS.same("all rows of the chart", Checks.taught("chart a row slip rest row slip rest"
                + " row slip rest; piece p cast 1 gauge 1 by 1 work a times 26;").would(0, 1, 1),
                78);
    }

    /** What a sum tells is not told anew while the work goes on. */
    private static void timesAsAWorkBegins() {
        CHECKS.same("times stitches", rowsOf("work o times stitches"), 4);
        CHECKS.same("times rows + 1", rowsOf("work a times rows + 1"), 1);
        CHECKS.same("times rows of none", rowsOf("work a times rows"), 0);
        CHECKS.same("times rows of 3", rowsOf("work a times 3 work a times rows"), 6);
        CHECKS.same("times holes of none", rowsOf("work o times holes"), 0);
        CHECKS.same("times holes", rowsOf("work o times 3 work o times holes"), 6);
        CHECKS.same("times yarn of a cast on", rowsOf("work k times yarn"), 0);
        CHECKS.same("times yarn", rowsOf("work k work k times yarn"), 5);
        CHECKS.same("times stitches of the latest row", rowsOf("work d times 2 work a times"
                + " stitches"), 4);
    }

    // "if the test of a work holds as it begins", "stitches are those of the latest row, rows
    // how many rows were worked (the row 0 not counted), yarn and holes those of the piece so
    // far"

    private static void testsAsAWorkBegins() {
        CHECKS.same("it holds no more while it is worked",
                rowsOf("work o times 5 when stitches = 4"), 5);
        CHECKS.same("it holds only while it is worked",
                rowsOf("work o times 5 when stitches > 4"), 0);
        CHECKS.same("as a piece begins", rowsOf("work a when stitches = 4 and rows = 0 and yarn = 0"
                + " and holes = 0"), 1);
        CHECKS.same("behind rows", rowsOf("work o times 2 work d work k work a when stitches = 5"
                + " and rows = 4 and yarn = 1 + 1 + 2 + 5 and holes = 2"), 5);
        CHECKS.same("behind a work that was not worked", rowsOf("work o when 1 = 2 work a when"
                + " stitches = 4 and rows = 0 and holes = 0"), 1);
        CableChart x = Checks.taught(PLAIN + "piece p cast 4 gauge 1 by 1 work o work a when"
                + " rows = 1 and holes = 1 and yarn = 1;");
        x.knit(0);
        x.knit(0);
        CHECKS.same("they begin anew with each knit", x.piece(0, 1), 2);
        CHECKS.same("and with each piece that would be", x.would(0, 9, 1), 2);
    }

    // "done holds, if a piece is knit, with error 0 (not, if it was cast on anew since then)"

    private static int worked(CableChart x) {
        x.knit(1);
        return x.piece(1, 1);
    }

    private static void doneHolds() {
        CableChart x = Checks.taught(PLAIN + "piece p cast 60 gauge 1 by 1 work x;"
                + "piece q cast 4 gauge 1 by 1 work a when done p;");
        CHECKS.same("not yet knit", worked(x), 0);
        CHECKS.same("would, not yet knit", x.would(1, 4, 1), 0);
        x.would(0, 60, 0);
        x.needs(0);
        CHECKS.same("not by what would be", worked(x), 0);
        x.cast(0, 58);
        CHECKS.same("an error 8", x.knit(0), 8);
        CHECKS.same("knit with error 8", worked(x), 0);
        x.cast(0, 60);
        CHECKS.same("cast on anew behind it", worked(x), 0);
        CHECKS.same("an error 9", x.knit(0), 9);
        CHECKS.same("knit with error 9", worked(x), 0);
        x.cast(0, 59);
        CHECKS.same("an error 0", x.knit(0), 0);
        CHECKS.same("knit with error 0 behind errors", worked(x), 1);
        CableChart y = Checks.taught(PLAIN + "piece p cast 60 gauge 1 by 1 work d;"
                + "piece q cast 4 gauge 1 by 1 work a when done p;");
        CHECKS.same("error", y.knit(0), 0);
        CHECKS.same("knit with error 0", worked(y), 1);
        CHECKS.same("would of it", y.would(1, 4, 1), 1);
        CHECKS.illegalIn(y, "a refused cast", () -> y.cast(0, 61));
        CHECKS.same("behind a refused cast", worked(y), 1);
        y.cast(0, 60);
        CHECKS.same("what was knit stays", y.piece(1, 1), 1);
        CHECKS.same("cast on anew with the same number", worked(y), 0);
        y.knit(0);
        CHECKS.same("knit anew", worked(y), 1);
        y.cast(0, 1);
        y.knit(0);
        CHECKS.same("knit anew with an error", worked(y), 0);
        CHECKS.same("would of it", y.would(1, 4, 1), 0);
    }

    // "Both sides of and and or are reckoned; and binds more than or, not more than and."

    private static void orderOfTests() {
        String[] values = {"1 = 2", "1 = 1"};
        for (int mask = 0; mask < 8; mask++) {
            boolean a = (mask & 1) != 0;
            boolean b = (mask & 2) != 0;
            boolean c = (mask & 4) != 0;
            String x = values[mask & 1];
            String y = values[mask >> 1 & 1];
            String z = values[mask >> 2];
            worksIf(x + " or " + y + " and " + z, a || b && c);
            worksIf(x + " and " + y + " or " + z, a && b || c);
            worksIf("not " + x + " and " + y + " or " + z, !a && b || c);
            worksIf("not " + x + " or " + y + " and " + z, !a || b && c);
            worksIf("not [" + x + " and " + y + "] or " + z, !(a && b) || c);
            worksIf("not [" + x + " or " + y + "] and " + z, !(a || b) && c);
            worksIf("[" + x + " or " + y + "] and " + z, (a || b) && c);
            worksIf(x + " and [" + y + " or " + z + "]", a && (b || c));
            worksIf(x + " or not " + y + " or " + z, a || !b || c);
            worksIf(x + " and not " + y + " and not not " + z, a && !b && c);
        }
        String[] signs = {"<", ">", "=", "<=", ">="};
        for (int i = -1; i < 2; i++) {
            boolean[] due = {i < 0, i > 0, i == 0, i <= 0, i >= 0};
            for (int sign = 0; sign < 5; sign++) {
                worksIf("stitches " + signs[sign] + " " + (4 - i), due[sign]);
            }
        }
    }

    private static void worksIf(String test, boolean due) {
        CHECKS.same(test, rowsOf("work a when " + test), due ? 1 : 0);
    }
}
