/** The edges that "1. The language" names for errors 2 to 6, and promise 4. */
public final class ErrorsTest {
    private static final Checks CHECKS = new Checks("ErrorsTest");
    private static final String CHART = "chart a row knit rest;";
    private static final String HEAD = " cast 1 gauge 1 by 1";
    private static final String ROWS = Checks.times(12, "row knit ");
    private static final String WORKS = Checks.times(12, " work a");
    private static final String KNOWN = "chart a row cable 1 front 1 over row knit 3;"
            + "piece p cast 2 gauge 3 by 4 work a; piece q cast 2 gauge 1 by 1 work a when done p;";

    public static void main(String[] args) {
        namesOfTheSameSort();
        eachNameIsAnotherOne();
        chartsToldAhead();
        piecesToldAhead();
        the9thChart();
        the5thPiece();
        the13thRow();
        the13thWork();
        rangesOfNumbers();
        numbersWithoutARange();
        restsWithinReps();
        error1ComesFirst();
        theFirstErrorFromTheLeft();
        theSmallestNumberAtOneToken();
        thePatternThatIsFull();
        numbersOfChartsAndRows();
        anErrorLeavesAll();
        inThePlaceOfAll();
        eachPatternOnItsOwn();
        nothingIsKnitYet();
        CHECKS.finish();
    }

    // "Error 2: the name behind chart or piece is that of one of the same sort told ahead."

    private static void namesOfTheSameSort() {
        CHECKS.errorAtMark("chart a row knit; chart @a row knit;", 2);
        CHECKS.errorAtMark("chart a row knit; chart b row knit; chart @b row knit;", 2);
        CHECKS.errorAtMark("chart a row knit; chart b row knit; chart @a row knit;", 2);
        CHECKS.errorAtMark("piece a" + HEAD + "; piece b" + HEAD + "; piece @a" + HEAD + ";", 2);
        CHECKS.errorAtMark("piece a" + HEAD + "; piece @a" + HEAD + ";", 2);
        CHECKS.good("chart a row knit; piece a" + HEAD + ";");
        CHECKS.good("piece a" + HEAD + "; chart a row knit; piece b" + HEAD
                + "; chart b row knit;");
        CHECKS.good("chart a row knit; chart aa row knit; chart a0 row knit; chart a1 row knit;");
        CHECKS.errorAtMark("chart aaaaaaaaaa row knit; chart aaaaaaaaa row knit;"
                + "chart @aaaaaaaaaa row knit;", 2);
    }

    private static void eachNameIsAnotherOne() {
        String[] names = {"a", "b", "c", "y", "z", "aa", "ab", "az", "ba", "bb", "by0", "zz", "a0",
            "a1", "a9", "b0", "b1", "z0", "z9", "a00", "a01", "a10", "a99", "b00", "aaa", "aab",
            "baa", "zza", "zz9", "z99", "a123456789", "a123456788", "b123456789", "abcdefghij",
            "abcdefghi", "bcdefghij", "abcdefghik", "abcdefghi0", "zzzzzzzzzz", "zzzzzzzzz",
            "yzzzzzzzzz", "z999999999", "z99999999", "y999999999"};
        for (String one : names) {
            for (String other : names) {
                String text = "chart " + one + " row knit; chart @" + other + " row knit;";
                if (one.equals(other)) {
                    CHECKS.errorAtMark(text, 2);
                } else {
                    CHECKS.good(text.replace("@", ""));
                }
            }
        }
    }

    // "Error 3: another name is none of what it has to be, told ahead"

    private static void chartsToldAhead() {
        CHECKS.good(CHART + "piece p" + HEAD + " work a;");
        CHECKS.errorAtMark("piece p" + HEAD + " work @a;", 3);
        CHECKS.errorAtMark("piece p" + HEAD + " work @a; chart a row knit;", 3);
        CHECKS.errorAtMark(CHART + "piece p" + HEAD + " work @p;", 3);
        CHECKS.errorAtMark(CHART + "piece p" + HEAD + "; piece q" + HEAD + " work a work @p;", 3);
        CHECKS.errorAtMark(CHART + "piece p" + HEAD + " work @aa;", 3);
        CHECKS.errorAtMark(CHART + "piece p" + HEAD + " work a work @b work a;", 3);
    }

    private static void piecesToldAhead() {
        String first = CHART + "piece p" + HEAD + " work a;";
        String second = first + "piece q" + HEAD + " work a";
        CHECKS.good(second + " when done p;");
        CHECKS.errorAtMark(second + " when done @q;", 3);
        CHECKS.errorAtMark(second + " when done @r; piece r" + HEAD + ";", 3);
        CHECKS.errorAtMark(second + " when done @a;", 3);
        CHECKS.errorAtMark(second + " when done p or [done p and not done @pp];", 3);
        CHECKS.good(second + " when done p; piece r" + HEAD + " work a when done p or done q;");
        CHECKS.errorAtMark(CHART + "piece p" + HEAD + " work a when done @p;", 3);
        CHECKS.errorAtMark(CHART + "piece p" + HEAD + " work a work a when done @p;", 3);
        CHECKS.good("chart p row knit; piece p" + HEAD + " work p; piece q" + HEAD
                + " work p when done p;");
        CHECKS.errorAtMark(CHART + "piece p" + HEAD + "; piece q" + HEAD + "; piece r" + HEAD
                + "; piece s" + HEAD + " work a when done p and done q and done r and done @s;", 3);
    }

    // "Error 4: the name of the 9th chart or of the 5th piece, the row of the 13th row of a
    // chart, or the work of the 13th work of a piece."

    private static void the9thChart() {
        CHECKS.good(Checks.charts(8));
        CHECKS.same("the last of 8 charts", Checks.taught(Checks.charts(8)).chart(7, 0, 0), 1);
        CHECKS.errorAtMark(Checks.charts(8) + "chart @c8 row knit;", 4);
        CHECKS.errorAtMark(Checks.pieces(4) + Checks.charts(8) + "chart @c8 row knit;", 4);
        CHECKS.errorAtMark(Checks.charts(7) + Checks.pieces(2)
                + "chart x row knit; chart @y row knit;", 4);
    }

    private static void the5thPiece() {
        CHECKS.good(Checks.pieces(4));
        CHECKS.same("the last of 4 pieces", Checks.taught(Checks.pieces(4)).piece(3, 0), 1);
        CHECKS.errorAtMark(Checks.pieces(4) + "piece @p4" + HEAD + ";", 4);
        CHECKS.errorAtMark(Checks.charts(8) + Checks.pieces(4) + "piece @c0" + HEAD + ";", 4);
        CHECKS.errorAtMark(Checks.pieces(3) + Checks.charts(3) + "piece x" + HEAD + "; piece @y"
                + HEAD + ";", 4);
    }

    private static void the13thRow() {
        CHECKS.good("chart a " + ROWS + ";");
        CHECKS.same("the last of 12 rows", Checks.taught("chart a " + ROWS + ";").chart(0, 11, 0),
                1);
        CHECKS.errorAtMark("chart a " + ROWS + "@row knit;", 4);
        CHECKS.errorAtMark("chart a " + ROWS + "@row knit 61;", 4);
        CHECKS.good("chart a " + ROWS + "; chart b " + ROWS + "; chart c row knit;");
        CHECKS.errorAtMark("chart a " + ROWS + "; chart b " + ROWS + "@row knit;", 4);
        CHECKS.errorAtMark("chart a row knit; chart b " + ROWS + "@row knit row knit;", 4);
    }

    private static void the13thWork() {
        CHECKS.good(CHART + "piece p" + HEAD + WORKS + ";");
        CHECKS.errorAtMark(CHART + "piece p" + HEAD + WORKS + " @work a;", 4);
        CHECKS.errorAtMark(CHART + "piece p" + HEAD + WORKS + " @work b;", 4);
        CHECKS.good(CHART + "piece p" + HEAD + WORKS + "; piece q" + HEAD + WORKS + ";");
        CHECKS.errorAtMark(CHART + "piece p" + HEAD + " work a; piece q" + HEAD + WORKS
                + " @work a;", 4);
        CableChart x = Checks.taught(CHART + "piece p" + HEAD + WORKS + ";");
        x.knit(0);
        CHECKS.same("rows of 12 works", x.piece(0, 1), 12);
    }

    // "Error 5: a number is out of its range"

    private static void range(String marked, int most) {
        for (int number : new int[] {1, 2, most - 1, most}) {
            CHECKS.good(marked.replace("@", Integer.toString(number)));
            CHECKS.good(marked.replace("@", "00" + number));
        }
        String more = Integer.toString(most + 1);
        for (String number : new String[] {"0", "00", more, "0100", "999999"}) {
            CHECKS.error(marked.replace("@", number), 5, marked.indexOf('@'));
        }
    }

    private static void rangesOfNumbers() {
        range("chart a row knit @;", 60);
        range("chart a row purl @;", 60);
        range("chart a row slip @;", 60);
        range("chart a row rep 2 [ over slip @ ] purl 3;", 60);
        range("chart a row cable @ front 1;", 6);
        range("chart a row cable @ back 6;", 6);
        range("chart a row cable 1 front @;", 6);
        range("chart a row cable 6 back @;", 6);
        range("chart a row rep @ [ knit ];", 30);
        range("chart a row rep 30 [ rep @ [ knit ] ];", 30);
        range("piece p cast @ gauge 1 by 1;", 60);
        range("piece p cast 1 gauge @ by 1;", 40);
        range("piece p cast 1 gauge 1 by @;", 40);
        range(CHART + "piece p cast 1 gauge 40 by @ work a times 99;", 40);
    }

    private static void numbersWithoutARange() {
        String piece = CHART + "piece p" + HEAD + " work a times 0";
        CHECKS.good(piece + " work a times 999999;");
        CHECKS.good(piece + " work a times 41 work a when 0 = 999999 or 0 < 61 and 61 > 0;");
        CHECKS.good(piece + " when (0) >= -0 and (999999) <= -999999;");
        CHECKS.good(piece + " when min(0, 999999) * 0 / 0 + 0 - 0 = max(61, 0);");
        CHECKS.good(piece + " when not 0 = 0 and [0 = 0];");
    }

    // "Error 6: a rest (of knit, purl, slip or rep) within the brackets of a rep."

    private static void restsWithinReps() {
        CHECKS.good("chart a row knit rest purl rest slip rest rep rest [ tog ];");
        for (String stitch : new String[] {"knit", "purl", "slip", "rep"}) {
            String body = stitch.equals("rep") ? " [ over ]" : "";
            String rest = stitch + " @rest" + body;
            CHECKS.good("chart a row " + rest.replace("@", "") + ";");
            CHECKS.good("chart a row rep 2 [ over ] " + rest.replace("@", "") + ";");
            CHECKS.good("chart a row rep 2 [ rep 2 [ tog ] ] " + rest.replace("@", "") + ";");
            CHECKS.errorAtMark("chart a row rep 2 [ " + rest + " ];", 6);
            CHECKS.errorAtMark("chart a row rep rest [ " + rest + " ];", 6);
            CHECKS.errorAtMark("chart a row rep 2 [ rep 2 [ tog ] " + rest + " ];", 6);
            CHECKS.errorAtMark("chart a row rep 1 [ over rep 2 [ tog " + rest + " ] ];", 6);
            CHECKS.errorAtMark("chart a row knit rest row rep 1 [ over " + rest + " ];", 6);
        }
        CHECKS.good("chart a row rep rest [ over ] row rep rest [ tog ] rep rest [ knit ];");
        CHECKS.good(CHART + "piece p" + HEAD + " work a when [1 = 1] and [2 = 2]; chart b row knit"
                + " rest;");
    }

    // "Only if there is no error 1, keywords, names and numbers are looked at from left to
    // right, and the first error is told, at its token"

    private static final String[] FAULTS = {
        "chart z row knit; chart @z row knit;",
        "piece y" + HEAD + " work @none;",
        "chart w " + ROWS + "@row knit;",
        "chart v row knit @61;",
        "chart u row rep 2 [ knit @rest ];"};

    private static void error1ComesFirst() {
        for (String fault : FAULTS) {
            String text = fault.replace("@", "");
            CHECKS.notDueAt(text + "@#");
            CHECKS.notDueAt(text + "@;");
            CHECKS.notDueAt(text + "chart@");
            CHECKS.notDueAt(text + " chart @abcdefghijk row knit;");
            CHECKS.notDueAt("@;" + text);
            CHECKS.notDueAt(text.substring(0, text.indexOf(';')) + "@");
        }
    }

    private static void theFirstErrorFromTheLeft() {
        for (int first = 0; first < FAULTS.length; first++) {
            CHECKS.errorAtMark(CHART + FAULTS[first], first + 2);
            for (int next = 0; next < FAULTS.length; next++) {
                if (next != first) {
                    CHECKS.errorAtMark(FAULTS[first] + FAULTS[next].replace("@", ""), first + 2);
                }
            }
        }
        CHECKS.errorAtMark("piece p cast @0 gauge 0 by 0 work a;", 5);
        CHECKS.errorAtMark("piece p cast 1 gauge @0 by 0 work a;", 5);
        CHECKS.errorAtMark("piece p cast 1 gauge 1 by 1 work @a when done p;", 3);
        CHECKS.errorAtMark("chart a row cable @7 back 0;", 5);
        CHECKS.errorAtMark("chart a row rep @0 [ knit rest ];", 5);
        CHECKS.errorAtMark("chart a row rep 1 [ rep @rest [ knit rest knit 0 ] ];", 6);
        CHECKS.errorAtMark("chart a row rep 1 [ knit @0 knit rest ];", 5);
    }

    // "of errors at one token the one with the smallest number"

    private static void theSmallestNumberAtOneToken() {
        CHECKS.errorAtMark(Checks.charts(8) + "chart @c0 row knit;", 2);
        CHECKS.errorAtMark(Checks.charts(8) + "chart @c7 row knit;", 2);
        CHECKS.errorAtMark(Checks.pieces(4) + "piece @p0" + HEAD + ";", 2);
        CHECKS.errorAtMark(Checks.pieces(4) + "piece @p3" + HEAD + ";", 2);
    }

    /** Each limit at once: 8 charts of 12 rows, 4 pieces of 12 works, 400 tokens, 2000 bytes. */
    private static String fullPattern() {
        StringBuilder text = new StringBuilder();
        for (int i = 0; i < 8; i++) {
            text.append("chart ").append((char) ('a' + i)).append(' ').append(ROWS).append(';');
        }
        for (int i = 0; i < 4; i++) {
            text.append("piece ").append((char) ('p' + i)).append(HEAD);
            for (int work = 0; work < 12; work++) {
                text.append(" work ").append((char) ('a' + work % 8));
                text.append(i * 12 + work < 26 ? " times 0" : "");
            }
            text.append(';');
        }
        return text.append(Checks.times(2000 - text.length(), "\n")).toString();
    }

    private static void thePatternThatIsFull() {
        CHECKS.good(fullPattern());
        CableChart x = Checks.taught(fullPattern());
        CHECKS.same("its charts", x.count(0), 8);
        CHECKS.same("its pieces", x.count(1), 4);
        CHECKS.same("its last row", x.chart(7, 11, 1), 1);
        CHECKS.noSuchIn(x, "a 13th row", () -> x.chart(7, 12, 1));
        CHECKS.noSuchIn(x, "a 9th chart", () -> x.chart(8, 0, 1));
        CHECKS.noSuchIn(x, "a 5th piece", () -> x.piece(4, 0));
        CHECKS.same("no row", x.knit(0), 0);
        CHECKS.same("rows of no work", x.piece(0, 1), 0);
        CHECKS.same("120 rows and more", x.knit(2), 11);
        CHECKS.same("rows of them", x.piece(2, 1), 80);
        String text = fullPattern();
        int end = text.lastIndexOf(';') + 1;
        CHECKS.notDueAt(text.substring(0, end) + "  @;");
        CHECKS.notDueAt(text.substring(0, 1999) + "@p");
    }

    // "Charts and pieces are numbered from 0 in the order in which they are told, rows of a
    // chart from 0."

    private static void numbersOfChartsAndRows() {
        CableChart x = Checks.taught("piece z cast 9 gauge 1 by 1; chart y row knit 2 row knit 3;"
                + "piece a cast 8 gauge 1 by 1 work y; chart b row knit 4;");
        CHECKS.same("row 0 of chart 0", x.chart(0, 0, 0), 2);
        CHECKS.same("row 1 of chart 0", x.chart(0, 1, 0), 3);
        CHECKS.same("row 0 of chart 1", x.chart(1, 0, 0), 4);
        CHECKS.same("piece 0", x.piece(0, 0), 9);
        CHECKS.same("piece 1", x.piece(1, 0), 8);
        CHECKS.noSuchIn(x, "chart 2", () -> x.chart(2, 0, 0));
        CHECKS.noSuchIn(x, "row 2 of chart 0", () -> x.chart(0, 2, 0));
        CHECKS.noSuchIn(x, "row 1 of chart 1", () -> x.chart(1, 1, 0));
        CHECKS.noSuchIn(x, "piece 2", () -> x.piece(2, 0));
    }

    // Promise 4: "If it has an error, all stays (but the tape is empty)."

    private static void anErrorLeavesAll() {
        String[] texts = {"#", "chart", FAULTS[0], FAULTS[1], FAULTS[2], FAULTS[3], FAULTS[4],
            Checks.charts(9), Checks.pieces(5), Checks.times(2000, "a")};
        int[] errors = {1, 1, 2, 3, 4, 5, 6, 4, 4, 1};
        for (int i = 0; i < texts.length; i++) {
            CableChart x = Checks.taught(KNOWN);
            x.knit(0);
            String before = Snapshot.of(x);
            String row = row(x);
            String text = texts[i].replace("@", "");
            CHECKS.same("teach of " + text, Checks.teach(x, text), errors[i]);
            int at = x.errorAt();
            CHECKS.holds("a position of " + text, at >= 0);
            CHECKS.same("bytes behind " + text, x.count(6), 0);
            CHECKS.same("knit behind " + text, x.knit(1), 0);
            CHECKS.same("rows of it", x.piece(1, 1), 2);
            CHECKS.same("its stitches to cast on", x.cast(1, 2), 2);
            CHECKS.holds("the row behind " + text, row(x).equals(row));
            CHECKS.holds("all but errorAt behind " + text,
                    Snapshot.of(x).replace("error at " + at, "error at -1").equals(before));
            CHECKS.same("an error once more", Checks.teach(x, text), errors[i]);
            CHECKS.same("charts then", x.count(0), 1);
        }
    }

    private static String row(CableChart x) {
        StringBuilder text = new StringBuilder();
        for (int column = 0; column < x.many(0, 1); column++) {
            text.append(x.stitch(0, 1, column, 0)).append(' ').append(x.stitch(0, 1, column, 1));
            text.append(' ').append(x.where(0, column, 1)).append(',');
        }
        return text.toString();
    }

    // "Reads the tape as a pattern, in the place of all that was told before; nothing is knit
    // yet."

    private static void inThePlaceOfAll() {
        CableChart x = Checks.taught(KNOWN);
        x.knit(0);
        x.knit(1);
        CHECKS.same("teach of another one", Checks.teach(x, "chart b row slip 9;"), 0);
        CHECKS.same("charts", x.count(0), 1);
        CHECKS.same("its row", x.chart(0, 0, 0), 9);
        CHECKS.noSuchIn(x, "a row of the one before", () -> x.chart(0, 1, 0));
        CHECKS.noSuchIn(x, "a piece of the one before", () -> x.piece(0, 0));
        CHECKS.same("a name of the one before", Checks.teach(x, "piece p" + HEAD + " work a;"), 3);
        CHECKS.same("names of the one before told anew", Checks.teach(x, KNOWN), 0);
        CHECKS.same("an empty one", Checks.teach(x, ""), 0);
        CHECKS.same("charts of it", x.count(0), 0);
        CHECKS.same("pieces of it", x.count(1), 0);
        CHECKS.noSuchIn(x, "a chart of it", () -> x.chart(0, 0, 0));
        CHECKS.noSuchIn(x, "a piece of it", () -> x.knit(0));
    }

    /** One object reads them all, each as a new object would read it alone. */
    private static void eachPatternOnItsOwn() {
        String[] texts = {fullPattern(), KNOWN, FAULTS[4], KNOWN, CHART, FAULTS[2], CHART,
            CHART + "piece p" + HEAD + WORKS + " work a;", KNOWN, "", KNOWN, "chart a " + ROWS
            + "; piece p" + HEAD + WORKS + ";", "#", CHART + "piece p" + HEAD + " work a;", "",
            Checks.pieces(4), CHART + "piece p" + HEAD + " work a;", Checks.charts(8), "",
                    Checks.charts(9), CHART,
            "chart a row rep 1 [ rep 1 [ rep 1 [ knit rest ] ] ];", CHART, "piece p" + HEAD + ";",
            KNOWN + "chart b row rep rest [ tog ]; piece r" + HEAD + " work b;"};
        CableChart x = new CableChart();
        for (String marked : texts) {
            String text = marked.replace("@", "");
            CableChart alone = new CableChart();
            int error = Checks.teach(alone, text);
            CHECKS.same("teach, as of a new object, of " + text, Checks.teach(x, text), error);
            CHECKS.same("errorAt of it", x.errorAt(), alone.errorAt());
            if (error == 0) {
                CHECKS.holds("the same charts and pieces", x.digest() == alone.digest());
                for (int piece = 0; piece < alone.count(1); piece++) {
                    CHECKS.same("knit of it", x.knit(piece), alone.knit(piece));
                }
                CHECKS.holds("the same rows", x.digest() == alone.digest());
            }
        }
    }

    private static void nothingIsKnitYet() {
        CableChart x = Checks.taught(KNOWN);
        x.knit(0);
        x.knit(1);
        x.cast(0, 50);
        x.knit(0);
        CHECKS.same("teach of the same", Checks.teach(x, KNOWN), 0);
        int[] due = {2, 0, 0, 0, 0, -1, 0, 0};
        for (int piece = 0; piece < 2; piece++) {
            for (int what = 0; what < 8; what++) {
                CHECKS.same("piece(" + piece + ", " + what + ")", x.piece(piece, what), due[what]);
            }
        }
        CHECKS.noSuchIn(x, "a row of it", () -> x.many(0, 0));
        CHECKS.same("done of what is not knit yet", x.would(1, 2, 1), 0);
        CHECKS.same("crosses of it", x.crosses(0, 0, 1), 0);
        CHECKS.same("front of it", x.front(0), -1);
    }
}
