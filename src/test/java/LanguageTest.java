/** Promises 1 to 6: a new object, feed, trim, teach, errorAt, count. */
public final class LanguageTest {
    private static final Checks CHECKS = new Checks("LanguageTest");
    private static final String CHART = "chart a row knit rest;";
    private static final String PIECE = CHART + "piece p cast 3 gauge 1 by 1 work a";

    public static void main(String[] args) {
        newObject();
        feedAndTrim();
        blanksAndTokens();
        notDue();
        longestPattern();
        depth();
        names();
        tooMany();
        ranges();
        restsInReps();
        firstErrorWins();
        errorLeavesAll();
        sumsAndTests();
        counts();
        CHECKS.finish();
    }

    private static void newObject() {
        CableChart x = new CableChart();
        for (int what = 0; what < 7; what++) {
            CHECKS.same("count(" + what + ") of a new object", x.count(what), 0);
        }
        CHECKS.same("errorAt() of a new object", x.errorAt(), -1);
        CHECKS.same("mean() of a new object", x.mean(), 0.0);
        CHECKS.noSuch("knit(0) of a new object", () -> x.knit(0));
        CHECKS.noSuch("chart(0, 0, 0) of a new object", () -> x.chart(0, 0, 0));
        long due = 769;
        for (int what = 0; what < 7; what++) {
            due *= 31;
        }
        CHECKS.same("digest() of a new object", x.digest(), due);
    }

    private static void feedAndTrim() {
        CableChart x = new CableChart();
        for (int i = 1; i <= 100; i++) {
            CHECKS.same("feed " + i, x.feed(0, 0, 0, 0, 0), 20 * i);
        }
        CHECKS.refused("feed 101", IllegalStateException.class, () -> x.feed(0, 0, 0, 0, 0));
        CHECKS.same("bytes", x.count(6), 2000);
        CHECKS.illegal("trim(2001)", () -> x.trim(2001));
        CHECKS.illegal("trim(-1)", () -> x.trim(-1));
        CHECKS.illegal("trim(MIN)", () -> x.trim(Integer.MIN_VALUE));
        CHECKS.illegal("trim(MAX)", () -> x.trim(Integer.MAX_VALUE));
        CHECKS.same("trim(2000)", x.trim(2000), 2000);
        CHECKS.same("trim(1981)", x.trim(1981), 1981);
        CHECKS.refused("feed to 2001", IllegalStateException.class, () -> x.feed(0, 0, 0, 0, 0));
        CHECKS.same("bytes", x.count(6), 1981);
        CHECKS.same("trim(1980)", x.trim(1980), 1980);
        CHECKS.same("feed to 2000", x.feed(0, 0, 0, 0, 0), 2000);
        CHECKS.same("trim(0)", x.trim(0), 0);
        CHECKS.illegal("trim(1) of none", () -> x.trim(1));
        CHECKS.same("teach()", x.teach(), 0);

        CableChart y = new CableChart();
        byte[] bytes = "chart a row purl 9; ".getBytes(java.nio.charset.StandardCharsets.US_ASCII);
        y.feed(Checks.word(bytes, 0), Checks.word(bytes, 4), Checks.word(bytes, 8),
                Checks.word(bytes, 12), Checks.word(bytes, 16));
        CHECKS.same("teach of the five numbers", y.teach(), 0);
        CHECKS.same("takes", y.chart(0, 0, 0), 9);
        CHECKS.same("feed of high bytes", y.feed(-1, -1, -1, -1, -1), 20);
        CHECKS.same("teach of high bytes", y.teach(), 1);
        CHECKS.same("at", y.errorAt(), 0);
        CHECKS.same("the chart stays", y.chart(0, 0, 0), 9);

        CableChart z = new CableChart();
        Checks.put(z, "chart a row knit 3 4;");
        z.trim(18);
        Checks.put(z, ";", 18);
        CHECKS.same("a feed goes on behind a trim", z.teach(), 0);
    }

    private static void blanksAndTokens() {
        CHECKS.good("");
        CHECKS.good("   \n \n");
        CHECKS.good(" \nchart\na\nrow\nknit ; \n");
        CHECKS.good("chart a row knit 2purl 3slip 4over tog;");
        CHECKS.good("chart a1 row rep 2[cable 1front 2]row knit;");
        CHECKS.good("chart abcdefghij row knit;");
        CHECKS.good("chart a row knit 000060;");
        CHECKS.good(PIECE + " when 1<=2;");
        CHECKS.notDueAt("@\tchart a row knit;");
        CHECKS.notDueAt("chart a row knit@\r;");
        CHECKS.notDueAt("chart a row knit@\0;");
        CHECKS.notDueAt("chart a row @Knit;");
        CHECKS.notDueAt("chart a row knit@\u00e9;");
        CHECKS.notDueAt("chart @abcdefghijk row knit;");
        CHECKS.notDueAt("chart @a234567890b row knit;");
        CHECKS.good("chart a234567890 row knit;");
        CHECKS.notDueAt("chart a row knit @0000001;");
        CHECKS.good(PIECE + " times 999999;");
        CHECKS.notDueAt(PIECE + " times @1000000;");
        CHECKS.notDueAt("chart @row row knit;");
        CHECKS.notDueAt("chart @1a row knit;");
        CHECKS.notDueAt("chart @min row knit;");
        CHECKS.notDueAt("chart a @rowknit;");
        CHECKS.good("chart rows1 row knit;");
        CHECKS.notDueAt("chart a row @knit5;");
        CHECKS.notDueAt(PIECE + " when 1 < @= 2;");
        CHECKS.notDueAt(PIECE + " when 1 =@< 2;");
        CHECKS.notDueAt(PIECE + " when 1 >@> 2;");
        CHECKS.good(PIECE + " when 1>=2;");
    }

    private static void notDue() {
        CHECKS.notDueAt("@;");
        CHECKS.notDueAt("@knit");
        CHECKS.notDueAt("chart@");
        CHECKS.notDueAt("chart a@");
        CHECKS.notDueAt("chart a  \n @");
        CHECKS.notDueAt("chart a row@;");
        CHECKS.notDueAt("chart a @knit;");
        CHECKS.notDueAt("chart a row @a;");
        CHECKS.notDueAt("chart a row @5;");
        CHECKS.notDueAt("chart a row knit 5 @5;");
        CHECKS.notDueAt("chart a row knit rest @rest;");
        CHECKS.notDueAt("chart a row knit row@;");
        CHECKS.notDueAt("chart a row over @2;");
        CHECKS.notDueAt("chart a row tog @rest;");
        CHECKS.notDueAt("chart a row cable @front 2;");
        CHECKS.notDueAt("chart a row cable @rest front 2;");
        CHECKS.notDueAt("chart a row cable 2 @2;");
        CHECKS.notDueAt("chart a row cable 2 front@;");
        CHECKS.notDueAt("chart a row rep @[ knit ];");
        CHECKS.notDueAt("chart a row rep 2 @knit;");
        CHECKS.notDueAt("chart a row rep 2 [@];");
        CHECKS.notDueAt("chart a row rep 2 [knit @;");
        CHECKS.notDueAt("chart a row rep 2 [knit @row knit];");
        CHECKS.notDueAt("chart a row knit @];");
        CHECKS.notDueAt("chart a row knit @");
        CHECKS.notDueAt("chart a row knit @chart b row knit;");
        CHECKS.notDueAt("chart a row knit;@;");
        CHECKS.notDueAt("piece @5");
        CHECKS.notDueAt("piece p @gauge 1 by 1;");
        CHECKS.notDueAt("piece p cast @;");
        CHECKS.notDueAt("piece p cast 1 @by 1;");
        CHECKS.notDueAt("piece p cast 1 gauge 1 @1;");
        CHECKS.notDueAt("piece p cast 1 gauge 1 by @p;");
        CHECKS.notDueAt("piece p cast 1 gauge 1 by 1@");
        CHECKS.notDueAt("piece p cast 1 gauge 1 by 1 @times 2;");
        CHECKS.notDueAt("piece p cast 1 gauge 1 by 1 work @;");
        CHECKS.notDueAt(PIECE + " times@;");
        CHECKS.notDueAt(PIECE + " times 3 @4;");
        CHECKS.notDueAt(PIECE + " times 3 @< 4;");
        CHECKS.notDueAt(PIECE + " times @done p;");
        CHECKS.notDueAt(PIECE + " times 2 @times 3;");
        CHECKS.notDueAt(PIECE + " when 1 = 1 @times 3;");
        CHECKS.notDueAt(PIECE + " when 1 = 1 @when 1 = 1;");
        CHECKS.notDueAt(PIECE + " when 1@;");
        CHECKS.notDueAt(PIECE + " when 1 + @< 3;");
        CHECKS.notDueAt(PIECE + " when 1 < @;");
        CHECKS.notDueAt(PIECE + " when 1 < 2 @< 3;");
        CHECKS.notDueAt(PIECE + " when [1 < 2@;");
        CHECKS.notDueAt(PIECE + " when [1 < 2@);");
        CHECKS.notDueAt(PIECE + " when (1 @< 2);");
        CHECKS.notDueAt(PIECE + " when [1@] < 2;");
        CHECKS.notDueAt(PIECE + " when done @;");
        CHECKS.notDueAt(PIECE + " when done @5;");
        CHECKS.notDueAt(PIECE + " when @and 1 = 1;");
        CHECKS.notDueAt(PIECE + " when 1 = 1 or@;");
        CHECKS.notDueAt(PIECE + " when not@;");
        CHECKS.notDueAt(PIECE + " when @a = 1;");
        CHECKS.notDueAt(PIECE + " times min @3;");
        CHECKS.notDueAt(PIECE + " times min(1@);");
        CHECKS.notDueAt(PIECE + " times max(1, 2@, 3);");
        CHECKS.notDueAt(PIECE + " times max(1, @);");
        CHECKS.notDueAt(PIECE + " times -@;");
        CHECKS.notDueAt(PIECE + " times @not 1;");
        CHECKS.notDueAt(PIECE + " times (1@;");
        CHECKS.notDueAt(PIECE + " times (@);");
        CHECKS.good(PIECE + " times -1 when not not 1 = 2 and [1 = 1 or 3 > 2];");
    }

    private static void longestPattern() {
        CHECKS.good("chart a row " + Checks.times(396, "tog ") + ";");
        CHECKS.notDueAt("chart a row " + Checks.times(397, "tog ") + "@;");
        CHECKS.notDueAt("chart a row " + Checks.times(397, "tog ") + "@");
        CHECKS.notDueAt("chart a row " + Checks.times(397, "tog ") + "@knit;");
        CHECKS.notDueAt("chart a row " + Checks.times(397, "tog ") + "@#");
        CHECKS.notDueAt("chart a row " + Checks.times(396, "tog ") + "; @chart");
        String full = "chart a row " + Checks.times(396, "over ");
        CHECKS.good(full + ";" + Checks.times(2000 - full.length() - 1, " "));
        CHECKS.notDueAt(full + Checks.times(2000 - full.length(), "\n") + "@");
    }

    private static void depth() {
        String[] openings = {"(", "-"};
        String[] closings = {")", ""};
        for (int i = 0; i < 2; i++) {
            String eight = Checks.times(8, openings[i]);
            String shut = Checks.times(8, closings[i]);
            CHECKS.good(PIECE + " times " + eight + "1" + shut + ";");
            CHECKS.good(PIECE + " when " + eight + "1" + shut + " = 1;");
            CHECKS.good(PIECE + " times 1 + " + eight + "1" + shut + " * " + eight + "1" + shut
                    + ";");
            CHECKS.notDueAt(PIECE + " times " + eight + "@(1" + shut + ");");
            CHECKS.notDueAt(PIECE + " times " + eight + "@-1" + shut + ";");
            CHECKS.notDueAt(PIECE + " times " + eight + "min @(1, 2)" + shut + ";");
        }
        String nots = Checks.times(8, "not ");
        CHECKS.good(PIECE + " when " + nots + "1 = 1 and " + nots + "1 < 2;");
        CHECKS.notDueAt(PIECE + " when " + nots + "@not 1 = 1;");
        CHECKS.notDueAt(PIECE + " when " + nots + "@[1 = 1];");
        CHECKS.notDueAt(PIECE + " when " + nots + "@(1) = 1;");
        CHECKS.notDueAt(PIECE + " when " + nots + "1 = @-1;");
        CHECKS.good(PIECE + " when " + nots + "1 = 1 and not -1 = 1;");
        String squares = Checks.times(8, "[");
        CHECKS.good(PIECE + " when " + squares + "1 = 1" + Checks.times(8, "]") + ";");
        CHECKS.notDueAt(PIECE + " when " + squares + "@[1 = 1" + Checks.times(9, "]") + ";");
        CHECKS.notDueAt(PIECE + " when [[not not (--max(1, @(2))) = 1;");
        CHECKS.good(PIECE + " when [[not not (--max(1, 2)) = 1]];");
        CHECKS.good(PIECE + " times ((((((((1 - 2)))))))) - -3;");
        String reps = Checks.times(8, "rep 1 [");
        CHECKS.good("chart a row " + reps + "knit" + Checks.times(8, "]") + ";");
        CHECKS.good("chart a row " + reps + "knit" + Checks.times(8, "]") + reps + "knit"
                + Checks.times(8, "]") + "row " + reps + "knit" + Checks.times(8, "]") + ";");
        CHECKS.notDueAt("chart a row " + reps + "rep 1 @[knit" + Checks.times(9, "]") + ";");
    }

    private static void names() {
        CHECKS.errorAtMark("chart a row knit; chart @a row knit;", 2);
        CHECKS.errorAtMark("piece a cast 1 gauge 1 by 1; piece @a cast 1 gauge 1 by 1;", 2);
        CHECKS.good("chart a row knit; piece a cast 1 gauge 1 by 1 work a;");
        CHECKS.good("chart a row knit; chart a0 row knit; chart aa row knit; chart b row knit;");
        for (String near : new String[] {"a aa aaa aaaaaaaaaa aaaaaaaaa a0 a00 a1",
            "b ba ab bb b0 b9 z z9", "z z0 az bz a9 b0 ba9 b00", "abcdefghij abcdefghi "
            + "bcdefghij abcdefghi0 abcdefghi9 z999999999 z99999999 zzzzzzzzzz"}) {
            CHECKS.good("chart " + near.replace(" ", " row knit; chart ") + " row knit;");
        }
        CHECKS.errorAtMark("piece p cast 1 gauge 1 by 1 work @a; chart a row knit;", 3);
        CHECKS.errorAtMark(CHART + "piece p cast 1 gauge 1 by 1 work a work @b;", 3);
        CHECKS.errorAtMark(CHART + "piece p cast 1 gauge 1 by 1 work @p;", 3);
        CHECKS.errorAtMark(PIECE + " when done @p;", 3);
        CHECKS.errorAtMark(PIECE + " when done @a;", 3);
        CHECKS.errorAtMark(PIECE + " when done @q; piece q cast 1 gauge 1 by 1;", 3);
        CHECKS.errorAtMark(PIECE + "; piece q cast 1 gauge 1 by 1 work a when done p and done @q;",
                3);
        CHECKS.good(PIECE + "; piece q cast 1 gauge 1 by 1 work a when done p and done p;");
    }

    private static void tooMany() {
        CHECKS.good(Checks.charts(8) + Checks.pieces(4));
        CHECKS.errorAtMark(Checks.charts(8) + "chart @c8 row knit;", 4);
        CHECKS.errorAtMark(Checks.charts(8) + "chart @c7 row knit;", 2);
        CHECKS.errorAtMark(Checks.pieces(4) + "piece @p4 cast 1 gauge 1 by 1;", 4);
        CHECKS.errorAtMark(Checks.pieces(4) + "piece @p0 cast 1 gauge 1 by 1;", 2);
        String rows = Checks.times(12, "row knit ");
        CHECKS.good("chart a " + rows + "; chart b " + rows + ";");
        CHECKS.errorAtMark("chart a " + rows + "@row knit;", 4);
        CHECKS.errorAtMark("chart a row knit; chart b " + rows + "@row knit;", 4);
        String works = Checks.times(12, " work a");
        String piece = "piece p cast 1 gauge 1 by 1";
        CHECKS.good(CHART + piece + works + ";" + piece.replace("p ", "q ") + works + ";");
        CHECKS.errorAtMark(CHART + piece + works + " @work a;", 4);
        CHECKS.errorAtMark(CHART + piece + works + " @work b;", 4);
    }

    private static void range(String ahead, String behind, int most) {
        for (int number : new int[] {1, most}) {
            CHECKS.good(ahead + " " + number + " " + behind);
        }
        for (int number : new int[] {0, most + 1, 999999}) {
            CHECKS.error(ahead + " " + number + " " + behind, 5, ahead.length() + 1);
        }
    }

    private static void ranges() {
        for (String stitch : new String[] {"knit", "purl", "slip"}) {
            range("chart a row " + stitch, ";", 60);
            range("chart a row rep 2 [over " + stitch, "];", 60);
        }
        range("chart a row cable", "front 1;", 6);
        range("chart a row cable 1 front", ";", 6);
        range("chart a row cable 1 back", ";", 6);
        range("chart a row rep", "[ knit ];", 30);
        range("piece p cast", "gauge 1 by 1;", 60);
        range("piece p cast 1 gauge", "by 1;", 40);
        range("piece p cast 1 gauge 1 by", ";", 40);
        CHECKS.good(PIECE + " times 0 when 0 = 999999;");
        CHECKS.good(PIECE + " times (0) * 61 when 61 < min(999, 0);");
    }

    private static void restsInReps() {
        CHECKS.good("chart a row knit rest purl rest slip rest rep rest [ knit ];");
        CHECKS.errorAtMark("chart a row rep 2 [ knit @rest ];", 6);
        CHECKS.errorAtMark("chart a row rep rest [ purl @rest ];", 6);
        CHECKS.errorAtMark("chart a row rep 2 [ over rep 3 [ tog slip @rest ] ];", 6);
        CHECKS.errorAtMark("chart a row rep 2 [ knit rep @rest [ knit ] ];", 6);
        CHECKS.errorAtMark("chart a row rep 2 [ rep 2 [ over ] knit @rest ];", 6);
        CHECKS.good("chart a row rep 2 [ rep 2 [ over ] ] knit rest;");
    }

    private static void firstErrorWins() {
        CHECKS.notDueAt("chart a row knit 61; chart a row rep 2 [ knit rest ] @)");
        CHECKS.errorAtMark("chart a row knit @61; chart a row rep 2 [ knit rest ];", 5);
        CHECKS.errorAtMark("chart a row rep 2 [ knit @rest ] knit 0; chart a row knit;", 6);
        CHECKS.errorAtMark("chart a row knit; chart @a row rep 2 [ knit rest ] knit 0;", 2);
        CHECKS.errorAtMark("piece p cast 1 gauge 1 by 1 work @a when done p;", 3);
        CHECKS.errorAtMark("piece p cast @0 gauge 0 by 0 work a;", 5);
        CHECKS.errorAtMark("chart a row cable @0 front 7;", 5);
        CHECKS.errorAtMark("chart a row rep @31 [ knit rest ];", 5);
    }

    private static void errorLeavesAll() {
        CableChart x = Checks.taught("chart a row knit 2; piece p cast 2 gauge 1 by 2 work a;");
        CHECKS.same("knit", x.knit(0), 0);
        long digest = x.digest();
        for (String bad : new String[] {"chart", "chart b row knit; chart b row knit;",
                "piece q cast 61 gauge 1 by 1;", Checks.charts(9),
                        "chart b row rep 1 [slip rest];"}) {
            CHECKS.holds("an error in " + bad, Checks.teach(x, bad) != 0);
            CHECKS.holds("a position in " + bad, x.errorAt() >= 0);
            CHECKS.same("digest behind " + bad, x.digest(), digest);
            CHECKS.same("tape behind " + bad, x.count(6), 0);
            CHECKS.same("would behind " + bad, x.would(0, 2, 1), 1);
        }
        CHECKS.same("an empty tape", x.teach(), 0);
        CHECKS.same("errorAt behind it", x.errorAt(), -1);
        CHECKS.same("charts behind it", x.count(0), 0);
        CHECKS.noSuch("piece behind it", () -> x.piece(0, 0));
        Checks.teach(x, "chart a row knit 2; piece p cast 2 gauge 1 by 2 work a;");
        CHECKS.same("told again it is not knit", x.piece(0, 5), -1);
        CHECKS.same("nor are its rows", x.count(3), 0);
    }

    /** A work's test, as it holds behind two rows of 4 stitches, yarn 8 and no hole. */
    private static boolean holds(String test) {
        CableChart x = Checks.taught("chart a row knit rest; chart b row knit rest;"
                + "piece d cast 1 gauge 1 by 1; piece e cast 1 gauge 1 by 1;"
                + "piece p cast 4 gauge 1 by 1 work a times 2 work b when " + test + ";");
        x.knit(0);
        x.knit(2);
        return x.piece(2, 1) == 3;
    }

    private static int times(String sum) {
        CableChart x = Checks.taught("chart o row over knit rest; chart a row knit rest;"
                + "piece p cast 4 gauge 1 by 1 work o times 2 work a times " + sum + ";");
        x.knit(0);
        return x.piece(0, 1) - 2;
    }

    private static void sumsAndTests() {
        String[] that = {"stitches = 4", "rows = 2", "yarn = 8", "holes = 0", "1 < 2", "2 > 1",
            "2 = 2", "2 <= 2", "1 <= 2", "2 >= 2", "3 >= 2", "not 1 = 2", "not 1 = 2 and 1 = 1",
            "1 = 1 or 1 = 1 and 1 = 2", "1 = 2 and 1 = 1 or 1 = 1", "not [1 = 2 or 1 = 3]",
            "done d", "not done e", "done d and not done e", "not [done e and done d]",
            "not not 1 = 1", "[1 = 1 or 1 = 1] and 1 = 1", "1 + 2 * 3 = 7", "(1 + 2) * 3 = 9",
            "9 - 3 - 2 = 4", "9 - (3 - 2) = 8", "100 / 5 / 2 = 10", "100 / (5 / 2) = 50",
            "7 / 2 = 3", "-7 / 2 = -3", "7 / -2 = -3", "-7 / -2 = 3", "5 / 0 = 0", "-5 / 0 = 0",
            "0 / 0 = 0", "5 / (stitches - 4) = 0", "--3 = 3", "-(3) = 0 - 3", "2 * -3 = -6",
            "min(3, -4) = -4", "max(3, -4) = 3", "min(2, 2) = 2", "max(rows, stitches) = 4",
            "65536 * 65536 = 0", "65536 * 32768 < 0", "65536 * 32768 - 1 > 0",
            "65536 * 32768 / -1 = 65536 * 32768", "-(65536 * 32768) = 65536 * 32768",
            "65536 * 32767 + 65535 + 1 = 65536 * 32768",
                    "46341 * 46341 = -((2147 * 1000 + 479) * 1000 + 15)",
            "999999 * 999999 = -(729379 * 1000 + 967)",
            "65536 * 32768 / 65536 = -32768", "min(65536 * 32768, 0) < 0"};
        for (String test : that) {
            CHECKS.holds(test, holds(test));
            CHECKS.holds("not " + test, !holds("not [" + test + "]"));
        }
        String[] wrong = {"1 < 1", "2 > 2", "1 = 2", "3 <= 2", "1 >= 2", "1 = 1 and 1 = 2",
            "1 = 2 or 1 = 2", "[1 = 1 or 1 = 1] and 1 = 2", "not 1 = 1 or 1 = 2", "done e",
            "not 1 = 1 and 1 = 1", "done e and done d", "not done d"};
        for (String test : wrong) {
            CHECKS.holds("without " + test, !holds(test));
        }
        CHECKS.same("times 0", times("0"), 0);
        CHECKS.same("times 40", times("40"), 40);
        CHECKS.same("times 41", times("41"), 40);
        CHECKS.same("times 999999", times("999999"), 40);
        CHECKS.same("times -1", times("-1"), 0);
        CHECKS.same("times of a sum that wraps around", times("65536 * 32768"), 0);
        CHECKS.same("times stitches", times("stitches"), 6);
        CHECKS.same("times rows", times("rows"), 2);
        CHECKS.same("times yarn", times("yarn"), 11);
        CHECKS.same("times holes", times("holes * 3"), 6);
    }

    private static void counts() {
        CableChart x = Checks.taught("chart a row over knit rest; chart b row knit 5;"
                + "piece p cast 4 gauge 1 by 1 work a times 2; piece q cast 4 gauge 1 by 1 work a"
                + " work b work b; piece r cast 1 gauge 1 by 1;");
        CHECKS.same("charts", x.count(0), 2);
        CHECKS.same("pieces", x.count(1), 3);
        CHECKS.same("done", x.count(2), 0);
        CHECKS.same("knit p", x.knit(0), 0);
        CHECKS.same("knit q", x.knit(1), 0);
        CHECKS.same("done", x.count(2), 2);
        CHECKS.same("rows", x.count(3), 5);
        CHECKS.same("yarn", x.count(4), 11 + 15);
        CHECKS.same("holes", x.count(5), 3);
        x.cast(1, 5);
        CHECKS.same("rows without q", x.count(3), 2);
        CHECKS.same("knit q with an error", x.knit(1), 9);
        CHECKS.same("done", x.count(2), 1);
        CHECKS.same("rows", x.count(3), 3);
        CHECKS.same("yarn", x.count(4), 11 + 6);
        CHECKS.same("holes", x.count(5), 3);
        x.feed(0, 0, 0, 0, 0);
        x.trim(7);
        CHECKS.same("bytes", x.count(6), 7);
        for (int what : new int[] {-1, 7, Integer.MIN_VALUE, Integer.MAX_VALUE}) {
            CHECKS.noSuch("count(" + what + ")", () -> x.count(what));
        }
    }
}
