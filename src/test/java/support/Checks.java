import java.nio.charset.StandardCharsets;
import java.util.Arrays;

/** Counts and prints the answers that are not as due. */
final class Checks {
    interface Call {
        long answer();
    }

    /** Each alternative of the grammar is in it. */
    static final String WHOLE = "chart a row knit purl slip knit 1 purl 2 slip 3 knit rest"
            + " purl rest slip rest row over tog cable 1 front 2 cable 3 back 4 row rep 5 [ over"
            + " tog ] rep rest [ knit rep 2 [ purl ] ] ; piece p cast 6 gauge 7 by 8 work a work a"
            + " times 9 work a when 1 < 2 work a times stitches when rows > yarn or holes = 1 and 2"
            + " <= 3 or 4 >= 5 ; piece q cast 1 gauge 1 by 1 work a times - ( 1 + 2 ) * 3 / 4 - 5"
            + " when not done p and [ not [ done p ] or min ( 1 , 2 ) = max ( 3 + 4 , - 5 ) ] ;";

    private final String title;
    private int made;
    private int wrong;

    Checks(String title) {
        this.title = title;
    }

    void same(String what, long got, long due) {
        made++;
        if (got != due) {
            wrong++;
            System.out.println(title + ": " + what + " answered " + got + ", due is " + due);
        }
    }

    void same(String what, double got, double due) {
        made++;
        if (got != due) {
            wrong++;
            System.out.println(title + ": " + what + " answered " + got + ", due is " + due);
        }
    }

    void holds(String what, boolean is) {
        same(what, is ? 1 : 0, 1);
    }

    /** The exception's class has to be just this one, not one below it that the machine throws. */
    void refused(String what, Class<? extends RuntimeException> due, Call call) {
        made++;
        String got;
        try {
            got = "answered " + call.answer();
        } catch (RuntimeException e) {
            if (e.getClass() == due) {
                return;
            }
            got = "threw " + e;
        }
        wrong++;
        System.out.println(title + ": " + what + " " + got + ", due is " + due.getSimpleName());
    }

    void noSuch(String what, Call call) {
        refused(what, IndexOutOfBoundsException.class, call);
    }

    void illegal(String what, Call call) {
        refused(what, IllegalArgumentException.class, call);
    }

    /** Refused, and all that was there before it is still there. */
    void refusedAlone(String what, Class<? extends RuntimeException> due, CableChart x, Call call) {
        long digest = x.digest();
        int at = x.errorAt();
        refused(what, due, call);
        same("digest behind " + what, x.digest(), digest);
        same("errorAt behind " + what, x.errorAt(), at);
    }

    void noSuchIn(CableChart x, String what, Call call) {
        refusedAlone(what, IndexOutOfBoundsException.class, x, call);
    }

    void illegalIn(CableChart x, String what, Call call) {
        refusedAlone(what, IllegalArgumentException.class, x, call);
    }

    /** What a new object answers to a pattern, and that its tape is empty behind it. */
    void error(String text, int error, int position) {
        CableChart x = new CableChart();
        same("teach of " + text, teach(x, text), error);
        same("errorAt of " + text, x.errorAt(), position);
        same("tape behind " + text, x.count(6), 0);
        if (error != 0) {
            same("charts behind " + text, x.count(0), 0);
            same("pieces behind " + text, x.count(1), 0);
        }
    }

    void good(String text) {
        error(text, 0, -1);
    }

    /** The error stands where the text has its mark @. */
    void errorAtMark(String marked, int error) {
        int at = marked.indexOf('@');
        error(marked.replace("@", ""), error, at);
    }

    void notDueAt(String marked) {
        errorAtMark(marked, 1);
    }

    /** A row of piece 0: a digit for the sort of each stitch, and their strands. */
    void rowIs(CableChart x, int row, String sorts, int... strands) {
        same("stitches of row " + row, x.many(0, row), sorts.length());
        for (int i = 0; i < sorts.length(); i++) {
            same("sort of " + row + ", " + i, x.stitch(0, row, i, 0), sorts.charAt(i) - '0');
            same("strand of " + row + ", " + i, x.stitch(0, row, i, 1), strands[i]);
        }
    }

    void finish() {
        System.out.println(title + ": " + made + " answers, " + wrong + " not as due");
        if (wrong != 0 || made == 0) {
            System.exit(1);
        }
    }

    /** Puts a text on the empty tape. */
    static void put(CableChart x, String text) {
        put(x, text, 0);
    }

    /** Puts a text on a tape that has some bytes. */
    static void put(CableChart x, String text, int before) {
        byte[] bytes = text.getBytes(StandardCharsets.ISO_8859_1);
        byte[] padded = Arrays.copyOf(bytes, (bytes.length + 19) / 20 * 20);
        for (int i = 0; i < padded.length; i += 20) {
            x.feed(word(padded, i), word(padded, i + 4), word(padded, i + 8), word(padded, i + 12),
                    word(padded, i + 16));
        }
        x.trim(before + bytes.length);
    }

    static int word(byte[] bytes, int at) {
        return (bytes[at] & 255) << 24 | (bytes[at + 1] & 255) << 16 | (bytes[at + 2] & 255) << 8
                | bytes[at + 3] & 255;
    }

    static int teach(CableChart x, String text) {
        put(x, text);
        return x.teach();
    }

    /** A new object that was taught a text without an error. */
    static CableChart taught(String text) {
        CableChart x = new CableChart();
        int error = teach(x, text);
        if (error != 0) {
            throw new AssertionError("error " + error + " at " + x.errorAt() + " in " + text);
        }
        return x;
    }

    /** A piece 0 that is knit by the rows of a chart, once. */
    static CableChart knit(int cast, String rows) {
        CableChart x = taught("chart a " + rows + ";piece p cast " + cast
                + " gauge 20 by 28 work a;");
        x.knit(0);
        return x;
    }

    static String charts(int many) {
        StringBuilder text = new StringBuilder();
        for (int i = 0; i < many; i++) {
            text.append("chart c").append(i).append(" row knit;");
        }
        return text.toString();
    }

    static String pieces(int many) {
        StringBuilder text = new StringBuilder();
        for (int i = 0; i < many; i++) {
            text.append("piece p").append(i).append(" cast 1 gauge 1 by 1;");
        }
        return text.toString();
    }

    static String times(int many, String text) {
        return text.repeat(many);
    }
}
