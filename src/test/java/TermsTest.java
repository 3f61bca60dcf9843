/** The edges that "Terms" and promises 1 to 3, 5 and 6 name: numbers, the tape, counts. */
public final class TermsTest {
    private static final Checks CHECKS = new Checks("TermsTest");
    private static final String CHART = "chart a row knit 7;";
    private static final String MOST = "(65536 * 32767 + 65535)";
    private static final String LEAST = "(65536 * 32768)";

    public static void main(String[] args) {
        sumsWrapAround();
        differencesWrapAround();
        productsWrapAround();
        divisionIsCutTowards0();
        divisionBy0Gives0();
        theLeastByMinus1();
        atFirstAllIsEmpty();
        at2000BytesTheTapeIsFull();
        aRefusedFeedPutsNothing();
        theHighestByteComesFirst();
        trimKeepsTheFirstBytes();
        trimOutOfItsRange();
        teachEmptiesTheTape();
        positionsOfErrors();
        countsOfNothing();
        countsOfKnitPieces();
        countsOutOfTheirRange();
        CHECKS.finish();
    }

    /** A test as it is behind a row of 4 stitches that are knit; not of it is checked too. */
    private static void holds(String test) {
        CHECKS.same(test, rowsWhen(test), 2);
        CHECKS.same("not " + test, rowsWhen("not [" + test + "]"), 1);
    }

    private static int rowsWhen(String test) {
        CableChart x = Checks.taught("chart a row knit rest; piece p cast 4 gauge 1 by 1 work a"
                + " work a when " + test + ";");
        x.knit(0);
        return x.piece(0, 1);
    }

    // "sums, differences and products of the language wrap around in 32 bits"

    private static void sumsWrapAround() {
        holds(MOST + " / 999999 = 2147");
        holds(MOST + " - 2147 * 999999 = 485794");
        holds(MOST + " > 0");
        holds(MOST + " + 1 < 0");
        holds(MOST + " + 1 = " + LEAST);
        holds(MOST + " + " + MOST + " = -2");
        holds(LEAST + " + -1 = " + MOST);
        holds(LEAST + " + " + LEAST + " = 0");
        holds(MOST + " + 1 - 1 = " + MOST);
    }

    private static void differencesWrapAround() {
        holds(LEAST + " < 0");
        holds(LEAST + " - 1 > 0");
        holds(LEAST + " - 1 = " + MOST);
        holds("0 - " + LEAST + " = " + LEAST);
        holds("0 - " + MOST + " = " + LEAST + " + 1");
        holds(MOST + " - " + LEAST + " = -1");
        holds("-" + LEAST + " = " + LEAST);
        holds("--" + LEAST + " < 0");
        holds("-" + MOST + " - 1 = " + LEAST);
    }

    private static void productsWrapAround() {
        holds("32768 * 65535 > 0");
        holds("32768 * 65536 < 0");
        holds("65536 * 65536 = 0");
        holds("46340 * 46340 = 46339 * 46341 + 1");
        holds("46341 * 46341 < 0");
        holds("999999 * 999999 = -(729379 * 1000 + 967)");
        holds(MOST + " * 2 = -2");
        holds(LEAST + " * -1 = " + LEAST);
        holds(LEAST + " * " + LEAST + " = 0");
        holds(MOST + " * " + MOST + " = 1");
    }

    // "/ is cut towards 0, gives 0 with 0 on the right side, and -2147483648 / -1 gives .."

    private static void divisionIsCutTowards0() {
        holds("7 / 2 = 3");
        holds("-7 / 2 = -3");
        holds("7 / -2 = -3");
        holds("-7 / -2 = 3");
        holds("1 / 2 = 0");
        holds("-1 / 2 = 0");
        holds("0 / 7 = 0");
        holds("6 / 2 = 3");
        holds("-6 / 2 = -3");
        holds(LEAST + " / 2 = -(32768 * 32768)");
        holds(MOST + " / -2 = 1 - 32768 * 32768");
        holds(MOST + " / " + LEAST + " = 0");
        holds(LEAST + " / " + MOST + " = -1");
    }

    private static void divisionBy0Gives0() {
        holds("7 / 0 = 0");
        holds("-7 / 0 = 0");
        holds("0 / 0 = 0");
        holds(LEAST + " / 0 = 0");
        holds(MOST + " / (stitches - 4) = 0");
        holds("7 / 0 * 5 + 3 = 3");
        holds("7 / (7 / 0) = 0");
        holds("7 / -0 = 0");
    }

    private static void theLeastByMinus1() {
        holds(LEAST + " / -1 = " + LEAST);
        holds("(" + LEAST + " + 1) / -1 = " + MOST);
        holds(LEAST + " / 1 = " + LEAST);
        holds(MOST + " / -1 = " + LEAST + " + 1");
    }

    // Promise 1, and "a row of at most 2000 bytes, at first empty"

    private static void atFirstAllIsEmpty() {
        CableChart x = new CableChart();
        CHECKS.same("bytes at first", x.count(6), 0);
        CHECKS.same("errorAt at first", x.errorAt(), -1);
        CHECKS.same("trim(0) at first", x.trim(0), 0);
        CHECKS.illegalIn(x, "trim(1) at first", () -> x.trim(1));
        CHECKS.noSuchIn(x, "piece(0, 0) at first", () -> x.piece(0, 0));
        CHECKS.noSuchIn(x, "fits(0, 1) at first", () -> x.fits(0, 1));
        CHECKS.noSuchIn(x, "needs(0) at first", () -> x.needs(0));
        CHECKS.same("teach() of the empty tape", x.teach(), 0);
        CHECKS.same("errorAt behind it", x.errorAt(), -1);
        CHECKS.same("feed", x.feed(0, 0, 0, 0, 0), 20);
    }

    // Promise 2

    private static void at2000BytesTheTapeIsFull() {
        CableChart x = new CableChart();
        Checks.put(x, Checks.times(2000, " "));
        CHECKS.same("bytes of a full tape", x.count(6), 2000);
        for (int bytes = 2000; bytes > 1980; bytes -= 3) {
            CHECKS.same("trim", x.trim(bytes), bytes);
            CHECKS.refusedAlone("feed to " + (bytes + 20), IllegalStateException.class, x,
                    () -> x.feed(0, 0, 0, 0, 0));
        }
        CHECKS.same("trim", x.trim(1981), 1981);
        CHECKS.refusedAlone("feed to 2001", IllegalStateException.class, x,
                () -> x.feed(0, 0, 0, 0, 0));
        CHECKS.same("trim", x.trim(1980), 1980);
        CHECKS.same("feed to 2000", x.feed(0, 0, 0, 0, 0), 2000);
        CHECKS.same("trim", x.trim(1979), 1979);
        CHECKS.same("feed to 1999", x.feed(0, 0, 0, 0, 0), 1999);
    }

    private static void aRefusedFeedPutsNothing() {
        CableChart x = new CableChart();
        Checks.put(x, CHART.replace(";", "") + Checks.times(1981, " ") + ";");
        CHECKS.same("bytes", x.count(6), 2000);
        CHECKS.refusedAlone("feed of a full tape", IllegalStateException.class, x,
                () -> x.feed(-1, -1, -1, -1, -1));
        CHECKS.same("the full tape", x.teach(), 0);
        CHECKS.same("its chart", x.chart(0, 0, 0), 7);
        Checks.put(x, CHART + Checks.times(1966, " "));
        CHECKS.same("bytes", x.count(6), 1985);
        CHECKS.refusedAlone("feed of 15 bytes too many", IllegalStateException.class, x,
                () -> x.feed(-1, -1, -1, -1, -1));
        CHECKS.same("the tape of 1985 bytes", x.teach(), 0);
        CHECKS.same("its charts", x.count(0), 1);
    }

    private static void theHighestByteComesFirst() {
        for (int sign : new int[] {'#', 0, 127, 128, 255}) {
            for (int at = 0; at < 20; at++) {
                int[] numbers = {0x20202020, 0x20202020, 0x20202020, 0x20202020, 0x20202020};
                int shift = 24 - at % 4 * 8;
                numbers[at / 4] = numbers[at / 4] & ~(255 << shift) | sign << shift;
                CableChart x = new CableChart();
                x.feed(numbers[0], numbers[1], numbers[2], numbers[3], numbers[4]);
                CHECKS.same("teach of the byte " + sign + " at " + at, x.teach(), 1);
                CHECKS.same("errorAt of it", x.errorAt(), at);
            }
        }
    }

    // Promise 3

    private static void trimKeepsTheFirstBytes() {
        CableChart x = new CableChart();
        Checks.put(x, CHART + "#");
        CHECKS.same("trim to all", x.trim(20), 20);
        CHECKS.same("teach of all", x.teach(), 1);
        CHECKS.same("errorAt of all", x.errorAt(), 19);
        Checks.put(x, CHART + "#");
        CHECKS.same("trim to all but one", x.trim(19), 19);
        CHECKS.same("teach of all but one", x.teach(), 0);
        CHECKS.same("its charts", x.count(0), 1);
        Checks.put(x, CHART + "#");
        CHECKS.same("trim to none", x.trim(0), 0);
        CHECKS.illegalIn(x, "trim to one of none", () -> x.trim(1));
        CHECKS.same("teach of none", x.teach(), 0);
        CHECKS.same("its charts", x.count(0), 0);
    }

    private static void trimOutOfItsRange() {
        CableChart x = new CableChart();
        Checks.put(x, CHART);
        for (int bad : new int[] {-1, 20, 2000, 2001, Integer.MIN_VALUE, Integer.MAX_VALUE}) {
            CHECKS.illegalIn(x, "trim(" + bad + ") of 19 bytes", () -> x.trim(bad));
        }
        CHECKS.same("bytes behind it", x.count(6), 19);
        CHECKS.same("trim(19)", x.trim(19), 19);
        CHECKS.same("teach behind it", x.teach(), 0);
        CHECKS.same("its chart", x.chart(0, 0, 0), 7);
    }

    // "teach reads it as a pattern, and it is empty behind it"

    private static void teachEmptiesTheTape() {
        CableChart x = new CableChart();
        for (String text : new String[] {CHART, "#", "chart", CHART + CHART,
            "chart a row knit 0;", CHART + Checks.times(1981, " "), Checks.times(2000, "#")}) {
            Checks.teach(x, text);
            CHECKS.same("bytes behind teach", x.count(6), 0);
            CHECKS.illegalIn(x, "trim(1) behind teach", () -> x.trim(1));
        }
    }

    // Promise 5, and "Positions of the tape are counted from 0, in bytes"

    private static void positionsOfErrors() {
        CableChart x = new CableChart();
        Checks.teach(x, "#");
        CHECKS.same("errorAt of the first byte", x.errorAt(), 0);
        Checks.teach(x, "\n\n  #");
        CHECKS.same("errorAt behind blanks", x.errorAt(), 4);
        Checks.teach(x, CHART + Checks.times(1980, " ") + "#");
        CHECKS.same("errorAt of the last byte of all", x.errorAt(), 1999);
        x.feed(0, 0, 0, 0, 0);
        CHECKS.illegal("trim(21)", () -> x.trim(21));
        CHECKS.same("errorAt till the next teach", x.errorAt(), 1999);
        x.trim(0);
        Checks.teach(x, "chart" + Checks.times(1995, " "));
        CHECKS.same("errorAt of the end of a full tape", x.errorAt(), 2000);
        Checks.teach(x, "chart");
        CHECKS.same("errorAt of the end", x.errorAt(), 5);
        Checks.teach(x, CHART + "chart b row knit 61;");
        CHECKS.same("errorAt of a number", x.errorAt(), 36);
        Checks.teach(x, CHART);
        CHECKS.same("errorAt without an error", x.errorAt(), -1);
        x.errorAt();
        CHECKS.same("errorAt once more", x.errorAt(), -1);
    }

    // Promise 6

    private static void countsOfNothing() {
        CableChart x = Checks.taught("");
        for (int what = 0; what < 7; what++) {
            CHECKS.same("count(" + what + ") of an empty pattern", x.count(what), 0);
        }
        CableChart y = Checks.taught("chart a row over knit rest; piece p cast 60 gauge 1 by 1;"
                + "piece q cast 4 gauge 1 by 1 work a;");
        int[] due = {1, 2, 0, 0, 0, 0, 0};
        for (int what = 0; what < 7; what++) {
            CHECKS.same("count(" + what + ") of what is not knit", y.count(what), due[what]);
        }
        y.knit(0);
        int[] cast = {1, 2, 1, 0, 0, 0, 0};
        for (int what = 0; what < 7; what++) {
            CHECKS.same("count(" + what + ") of a row 0", y.count(what), cast[what]);
        }
    }

    /** Pieces with an error have rows, yarn and holes that count, but are not among those of 2. */
    private static void countsOfKnitPieces() {
        CableChart x = Checks.taught("chart a row over knit rest row over tog row knit 2;"
                + "piece p cast 1 gauge 1 by 1 work a; piece q cast 2 gauge 1 by 1 work a;"
                + "piece r cast 60 gauge 1 by 1 work a; piece s cast 1 gauge 1 by 1 work a;");
        CHECKS.same("p", x.knit(0), 0);
        CHECKS.same("q", x.knit(1), 9);
        CHECKS.same("r", x.knit(2), 10);
        int[] due = {1, 4, 1, 3 + 1, (2 + 3 + 2) + 3, 2 + 1, 0};
        for (int what = 0; what < 7; what++) {
            CHECKS.same("count(" + what + ")", x.count(what), due[what]);
        }
        x.knit(3);
        x.knit(3);
        CHECKS.same("done with s", x.count(2), 2);
        CHECKS.same("rows with s", x.count(3), 7);
        CHECKS.same("yarn with s", x.count(4), 17);
        CHECKS.same("holes with s", x.count(5), 5);
        Checks.put(x, CHART);
        CHECKS.same("bytes", x.count(6), 19);
        CHECKS.same("teach", x.teach(), 0);
        for (int what = 1; what < 7; what++) {
            CHECKS.same("count(" + what + ") behind teach", x.count(what), 0);
        }
    }

    private static void countsOutOfTheirRange() {
        CableChart x = Checks.taught(CHART + "piece p cast 7 gauge 1 by 1 work a;");
        x.knit(0);
        for (int bad : new int[] {-1, 7, 8, Integer.MIN_VALUE, Integer.MAX_VALUE}) {
            CHECKS.noSuchIn(x, "count(" + bad + ")", () -> x.count(bad));
        }
        CHECKS.same("count(6)", x.count(6), 0);
        CHECKS.same("count(0)", x.count(0), 1);
    }
}
