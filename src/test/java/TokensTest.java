import java.util.ArrayList;
import java.util.List;

/** The edges that "1. The language" names for tokens, the grammar, the depth and error 1. */
public final class TokensTest {
    private static final Checks CHECKS = new Checks("TokensTest");
    private static final String CHART = "chart a row knit;";
    private static final String PIECE = CHART + "piece p cast 1 gauge 1 by 1 work a";
    private static final String KEYWORDS = "chart row knit purl slip over tog cable front back rep"
            + " rest piece cast gauge by work times when stitches rows yarn holes done not and or"
            + " min max";

    public static void main(String[] args) {
        eachByteBetweenTokens();
        eachByteAtTheEnds();
        eachByteInAWord();
        eachByteInANumber();
        whereBlanksHaveToStand();
        theLongestToken();
        wordsOf10Bytes();
        numbersOf6Digits();
        keywordsAreNoNames();
        thePatternCutShort();
        token401();
        depthOf8();
        depthOf9();
        depthIsLeft();
        depthOfEachOpening();
        CHECKS.finish();
    }

    private static String sign(int b) {
        return String.valueOf((char) b);
    }

    private static boolean isBlank(int b) {
        return b == 32 || b == 10;
    }

    private static boolean isLetter(int b) {
        return b >= 'a' && b <= 'z';
    }

    private static boolean isDigit(int b) {
        return b >= '0' && b <= '9';
    }

    // "Blanks (32) and line ends (10) can stand between tokens, at the beginning and at the end"

    private static void eachByteBetweenTokens() {
        String ahead = "chart a row knit ";
        for (int b = 0; b < 256; b++) {
            String text = ahead + sign(b) + ";";
            if (isBlank(b) || b >= '1' && b <= '9') {
                CHECKS.good(text);
            } else if (b == '0') {
                CHECKS.error(text, 5, 17);
            } else {
                CHECKS.error(text, 1, b == ';' ? 18 : 17);
            }
        }
    }

    private static void eachByteAtTheEnds() {
        for (int b = 0; b < 256; b++) {
            if (isBlank(b)) {
                CHECKS.good(sign(b));
                CHECKS.good(sign(b) + sign(b) + CHART);
                CHECKS.good(CHART + sign(b) + sign(b));
            } else {
                CHECKS.error(sign(b), 1, 0);
                CHECKS.error(sign(b) + CHART, 1, 0);
                CHECKS.error(CHART + sign(b), 1, 17);
            }
        }
        CHECKS.good("");
        CHECKS.good(Checks.times(1000, " \n"));
    }

    // "A word: a letter a to z, followed by letters a to z and digits"

    private static void eachByteInAWord() {
        for (int b = 0; b < 256; b++) {
            String first = "chart " + sign(b) + "a row knit;";
            if (isLetter(b) || isBlank(b)) {
                CHECKS.good(first);
            } else {
                CHECKS.error(first, 1, 6);
            }
            String next = "chart a" + sign(b) + " row knit;";
            if (isLetter(b) || isDigit(b) || isBlank(b)) {
                CHECKS.good(next);
            } else {
                CHECKS.error(next, 1, 7);
            }
        }
    }

    private static void eachByteInANumber() {
        for (int b = 0; b < 256; b++) {
            String text = "chart a row knit 1" + sign(b) + ";";
            if (isDigit(b) || isBlank(b)) {
                CHECKS.good(text);
            } else {
                CHECKS.error(text, 1, b == ';' ? 19 : 18);
            }
        }
        for (int digit = 0; digit < 10; digit++) {
            CableChart x = Checks.taught("chart a row knit 1" + digit + " row knit "
                    + (digit < 6 ? digit : 1) + "1;");
            CHECKS.same("knit 1" + digit, x.chart(0, 0, 0), 10 + digit);
        }
    }

    // "and have to stand between two tokens that would otherwise be read as one"

    private static void whereBlanksHaveToStand() {
        CHECKS.good("chart a row cable 1front 2over rep 3[tog]knit 4purl row slip\n;chart\nb\nrow"
                + " tog;piece p cast 1gauge 2by 3work a times(1)when(1)=2or 1<2and not[1=2];");
        CHECKS.notDueAt("@charta row knit;");
        CHECKS.notDueAt("chart arow @knit;");
        CHECKS.notDueAt("chart a @rowknit;");
        CHECKS.notDueAt("chart a row @knitpurl;");
        CHECKS.notDueAt("chart a row @knit2;");
        CHECKS.notDueAt("chart a row knit 2 @3;");
        CHECKS.error("chart a row knit 2 3;", 1, 19);
        CHECKS.good("chart a row knit 23;");
        CHECKS.notDueAt(PIECE + " @times2;");
        CHECKS.notDueAt(PIECE + " when 1 = 1 @or2 = 2;");
        CHECKS.notDueAt(PIECE + " @when1 = 1;");
        CHECKS.notDueAt(PIECE + " when @not1 = 1;");
    }

    // "The longest possible token is always read"

    private static void theLongestToken() {
        CHECKS.good(PIECE + " when 1<=2;");
        CHECKS.good(PIECE + " when 1>=2;");
        CHECKS.good(PIECE + " when 1<-2;");
        CHECKS.good(PIECE + " when 1>-2;");
        CHECKS.good(PIECE + " when 1=-2;");
        CHECKS.good(PIECE + " when 1--2<=--2;");
        CHECKS.notDueAt(PIECE + " when 1< @=2;");
        CHECKS.notDueAt(PIECE + " when 1> @=2;");
        CHECKS.notDueAt(PIECE + " when 1=@<2;");
        CHECKS.notDueAt(PIECE + " when 1=@>2;");
        CHECKS.notDueAt(PIECE + " when 1=@=2;");
        CHECKS.notDueAt(PIECE + " when 1<@>2;");
        CHECKS.notDueAt(PIECE + " when 1<@<=2;");
        CHECKS.notDueAt(PIECE + " when 1<=@=2;");
        CHECKS.notDueAt(PIECE + " when 1>=@=2;");
        CHECKS.good("chart rowknit row knit;");
        CHECKS.good("chart rep2 row knit;");
        CHECKS.good("chart a row knit 2row purl 3;");
        CHECKS.notDueAt("chart a row knit 2@rows;");
    }

    // "at most 10 bytes", "a word or number that is too long", "that of its first byte"

    private static void wordsOf10Bytes() {
        for (String ten : new String[] {"abcdefghij", "a123456789", "zzzzzzzzzz", "stitchesst"}) {
            CHECKS.good("chart " + ten + " row knit;");
            CHECKS.good("chart " + ten + "\nrow knit;");
            for (String more : new String[] {"a", "z", "0", "9", "aaaaaaaaaaaaaaaaaaaaaaaa"}) {
                CHECKS.notDueAt("chart @" + ten + more + " row knit;");
                CHECKS.notDueAt("@" + ten + more);
            }
            CHECKS.notDueAt("chart @" + ten + "a");
            CHECKS.notDueAt("@;" + ten + "a");
        }
        CHECKS.notDueAt("@" + Checks.times(2000, "a"));
        CHECKS.notDueAt("chart abcdefghij@;");
        CHECKS.notDueAt("chart a row @stitchesrest1;");
        CableChart x = Checks.taught("chart abcdefghij row knit 1; chart abcdefghik row knit 2;"
                + "chart bbcdefghij row knit 3; piece p cast 1 gauge 1 by 1 work abcdefghij"
                + " work abcdefghij; piece q cast 2 gauge 1 by 1 work abcdefghik;"
                + "piece r cast 3 gauge 1 by 1 work bbcdefghij;");
        CHECKS.same("the first name", x.knit(0), 0);
        CHECKS.same("one with another last letter", x.knit(1), 0);
        CHECKS.same("one with another first letter", x.knit(2), 0);
        CHECKS.errorAtMark("chart abcdefghij row knit; chart abcdefghi row knit;"
                + "chart @abcdefghij row knit;", 2);
    }

    // "A number: 1 to 6 digits."

    private static void numbersOf6Digits() {
        CHECKS.good("chart a row knit 1;");
        CHECKS.good("chart a row knit 000001;");
        CHECKS.good("chart a row knit 000060;");
        CHECKS.notDueAt("chart a row knit @0000001;");
        CHECKS.notDueAt("chart a row knit @0000000;");
        CHECKS.notDueAt("chart a row knit @" + Checks.times(500, "1") + ";");
        CHECKS.notDueAt("chart a row knit @1234567");
        CHECKS.errorAtMark("chart a row knit @999999;", 5);
        CHECKS.errorAtMark("chart a row knit @000061;", 5);
        CHECKS.good(PIECE + " times 999999 when 999999 = 999999;");
        CHECKS.notDueAt(PIECE + " times @1000000;");
        CHECKS.notDueAt(PIECE + " when 1 = @9999999;");
        CHECKS.notDueAt("@123456");
        CHECKS.notDueAt("chart a row knit @1234567a;");
        CHECKS.notDueAt("chart a row knit 123456@a;");
        CableChart x = Checks.taught("chart a row knit; piece p cast 1 gauge 1 by 1"
                + " work a when 999999 - 999998 = 1 work a when 000012 = 12 work a when 012345"
                + " + 067890 = 080235;");
        x.knit(0);
        CHECKS.same("rows with numbers of 6 digits", x.piece(0, 1), 3);
    }

    // "The keywords are: .. All other words are names."

    private static void keywordsAreNoNames() {
        List<String> keywords = List.of(KEYWORDS.split(" "));
        CHECKS.same("keywords", keywords.size(), 29);
        for (String word : keywords) {
            CHECKS.notDueAt("chart @" + word + " row knit;");
            CHECKS.notDueAt("piece @" + word + " cast 1 gauge 1 by 1;");
            CHECKS.notDueAt("piece p cast 1 gauge 1 by 1 work @" + word + ";");
            CHECKS.notDueAt(PIECE + " when done @" + word + ";");
            List<String> near = new ArrayList<>();
            near.add(word + "0");
            near.add(word + "s");
            near.add("x" + word);
            near.add(word.substring(1));
            near.add(word.substring(0, word.length() - 1));
            near.removeAll(keywords);
            for (String name : near) {
                CHECKS.good("chart " + name + " row knit; piece " + name
                        + " cast 1 gauge 1 by 1 work " + name + ";");
            }
        }
    }

    private static String joined(List<String> tokens) {
        return String.join(" ", tokens);
    }

    // "the first token with which the tokens so far are not the beginning of a pattern", "the
    // end of the tape (at its length)", "a byte with which no token begins"

    private static void thePatternCutShort() {
        CHECKS.good(Checks.WHOLE);
        CHECKS.good(Checks.WHOLE.replace(" ", "\n  "));
        List<String> tokens = List.of(Checks.WHOLE.split(" "));
        for (int many = 1; many <= tokens.size(); many++) {
            String text = joined(tokens.subList(0, many));
            boolean whole = text.endsWith(";");
            for (String end : new String[] {"", " ", "\n \n"}) {
                if (whole) {
                    CHECKS.good(text + end);
                } else {
                    CHECKS.notDueAt(text + end + "@");
                }
            }
            for (int b : new int[] {'#', 0, 9, 13, 255, 'A', '_', '{'}) {
                CHECKS.notDueAt(text + " @" + sign(b) + "]");
            }
            CHECKS.notDueAt(text + " @abcdefghijk ;");
            CHECKS.notDueAt(text + " @1234567 ;");
        }
    }

    // "and the token that would be the 401st (the end of the tape not counted)"

    private static void token401() {
        String start = "chart a row " + Checks.times(391, "tog ") + "; piece p cast ";
        CHECKS.notDueAt(start + "1 gauge @1 by 1;");
        String full = "chart a row " + Checks.times(396, "tog ");
        CHECKS.good(full + ";");
        CHECKS.good(full + ";  \n");
        CHECKS.notDueAt(full + "; @;");
        CHECKS.notDueAt(full + ";\n\n@chart");
        CHECKS.notDueAt(full + ";@#");
        CHECKS.notDueAt(full + ";@abcdefghijk");
        CHECKS.notDueAt(full + "tog @;");
        CHECKS.notDueAt(full + "tog@");
        CHECKS.notDueAt(full + "tog  @");
        CHECKS.notDueAt(full + "@abcdefghijk");
        CHECKS.notDueAt(full + "@] ;;");
        String less = "chart a row " + Checks.times(395, "tog ");
        CHECKS.good(less + ";");
        CHECKS.notDueAt(less + "; @;");
        CHECKS.notDueAt(less + "; chart@");
    }

    // "Depth. It is 0 at the beginning, and 1 greater between a ( and its ), a [ and its ],
    // behind a - in front (of a value) for what it turns, and behind a not for what it turns.
    // It may be at most 8."

    private static String nested(String opening, String inside, String closing, int depth) {
        return Checks.times(depth, opening) + inside + Checks.times(depth, closing);
    }

    private static void depthOf8() {
        CHECKS.good(PIECE + " times " + nested("(", "1", ")", 8) + ";");
        CHECKS.good(PIECE + " times " + nested("-", "1", "", 8) + ";");
        CHECKS.good(PIECE + " times " + nested("- ", "1", "", 8) + ";");
        CHECKS.good(PIECE + " times " + nested("min(1,", "1", ")", 8) + ";");
        CHECKS.good(PIECE + " times " + nested("max(", "1", ",1)", 8) + ";");
        CHECKS.good(PIECE + " times " + nested("(-", "1", ")", 4) + ";");
        CHECKS.good(PIECE + " when " + nested("[", "1=1", "]", 8) + ";");
        CHECKS.good(PIECE + " when " + nested("not ", "1=1", "", 8) + ";");
        CHECKS.good(PIECE + " when " + nested("not[", "1=1", "]", 4) + ";");
        CHECKS.good(PIECE + " when " + nested("not ", "-(1)=--1", "", 6) + ";");
        CHECKS.good(PIECE + " when " + nested("(", "1", ")", 8) + "=" + nested("-", "1", "", 8)
                + ";");
        CHECKS.good("chart a row " + nested("rep 1[", "knit", "]", 8) + ";");
        CHECKS.good("chart a row " + nested("rep rest[", "over", "]", 1) + nested("rep 1[", "knit",
                "]", 8) + ";");
    }

    private static void depthOf9() {
        CHECKS.notDueAt(PIECE + " times " + nested("(", "@(1)", ")", 8) + ";");
        CHECKS.notDueAt(PIECE + " times " + nested("-", "@-1", "", 8) + ";");
        CHECKS.notDueAt(PIECE + " times " + nested("min(1,", "min @(1, 1)", ")", 8) + ";");
        CHECKS.notDueAt(PIECE + " times " + nested("max(", "max @(1, 1)", ",1)", 8) + ";");
        CHECKS.notDueAt(PIECE + " times " + nested("(-", "@(1)", ")", 4) + ";");
        CHECKS.notDueAt(PIECE + " times " + nested("(-", "@-1", ")", 4) + ";");
        CHECKS.notDueAt(PIECE + " when " + nested("[", "@[1=1]", "]", 8) + ";");
        CHECKS.notDueAt(PIECE + " when " + nested("[", "@not 1=1", "]", 8) + ";");
        CHECKS.notDueAt(PIECE + " when " + nested("[", "@-1=1", "]", 8) + ";");
        CHECKS.notDueAt(PIECE + " when " + nested("[", "1=@(1)", "]", 8) + ";");
        CHECKS.notDueAt(PIECE + " when " + nested("[", "1=min@(1,1)", "]", 8) + ";");
        CHECKS.notDueAt(PIECE + " when " + nested("not ", "@not 1=1", "", 8) + ";");
        CHECKS.notDueAt(PIECE + " when " + nested("not ", "@[1=1]", "", 8) + ";");
        CHECKS.notDueAt("chart a row " + nested("rep 1[", "rep 1@[knit]", "]", 8) + ";");
        CHECKS.notDueAt("chart a row " + nested("rep 1[", "knit rep 1@[knit]", "]", 8) + ";");
        CHECKS.notDueAt(PIECE + " times " + nested("(", "1 + @-1", ")", 8) + ";");
        CHECKS.good(PIECE + " times " + nested("(", "1 - 1 - 1", ")", 8) + ";");
        CHECKS.notDueAt(PIECE + " times " + nested("(", "1 - @-1", ")", 8) + ";");
        CHECKS.notDueAt(PIECE + " times @abcdefghijk" + nested("(", "1", ")", 9) + ";");
    }

    private static void depthIsLeft() {
        String value = nested("(", "1", ")", 8);
        String turned = nested("-", "1", "", 8);
        CHECKS.good(PIECE + " times " + value + "+" + value + "*" + turned + "/" + value + "-"
                + turned + "-" + value + " when " + turned + "<" + value + ";");
        CHECKS.good(PIECE + " times min(" + nested("(", "1", ")", 7) + "," + nested("-", "1", "", 7)
                + ");");
        CHECKS.notDueAt(PIECE + " times min(" + nested("(", "1", ")", 7) + ","
                + nested("-", "@-1", "", 7) + ");");
        CHECKS.notDueAt(PIECE + " times max(" + nested("(", "@(1)", ")", 7) + ",1);");
        CHECKS.good(PIECE + " times ---1 * " + nested("-", "1", "", 8) + ";");
        CHECKS.good(PIECE + " when not 1=1 and " + nested("not ", "1=1", "", 8) + " or "
                + nested("[", "1=1", "]", 8) + " and " + value + "=" + turned + ";");
        CHECKS.good(PIECE + " when not " + nested("[", "1=1", "]", 7) + ";");
        CHECKS.notDueAt(PIECE + " when not " + nested("[", "@[1=1]", "]", 7) + ";");
        CHECKS.good("chart a row " + nested("rep 1[", "knit", "]", 8) + nested("rep 2[", "over",
                "]", 8) + "row " + nested("rep 3[", "tog", "]", 8) + ";");
        CHECKS.good("chart a row rep 1[" + nested("rep 1[", "knit", "]", 7) + nested("rep 1[",
                "knit", "]", 7) + "];");
        CHECKS.notDueAt("chart a row rep 1[" + nested("rep 1[", "knit", "]", 7) + nested("rep 1[",
                "rep 1@[knit]", "]", 7) + "];");
    }

    /** Each order of two sorts of openings, eight deep, with each sort of a ninth one in it. */
    private static void depthOfEachOpening() {
        String[] openings = {"(", "- ", "min(1,", "max("};
        String[] closings = {")", "", ")", ",1)"};
        String[] ninth = {"@(1)", "@-1", "min@(1,1)", "max@(1,1)"};
        for (int mask = 0; mask < 256; mask += 5) {
            for (int pair = 0; pair < 4; pair++) {
                StringBuilder left = new StringBuilder();
                StringBuilder right = new StringBuilder();
                for (int i = 0; i < 8; i++) {
                    int sort = (mask >> i & 1) == 0 ? pair : (pair + 1) % 4;
                    left.append(openings[sort]);
                    right.insert(0, closings[sort]);
                }
                CHECKS.good(PIECE + " times " + left + "1" + right + ";");
                CHECKS.notDueAt(PIECE + " times " + left + ninth[mask % 4] + right + ";");
            }
        }
    }
}
