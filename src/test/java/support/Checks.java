import java.nio.charset.StandardCharsets;
import java.util.Arrays;

/** Counts and prints the answers that are not as due. */
final class Checks {
    interface Call {
        long answer();
    }

    private final String title;
    private int made;
    private int wrong;

    Checks(String title) {
        this.title = title;
    }

    void same(String what, long got, long due) {
        made++;
        if (got != due) {
            wrong++;
            System.out.println(title + ": " + what + " answered " + got + ", due is " + due);
        }
    }

    void same(String what, double got, double due) {
        made++;
        if (got != due) {
            wrong++;
            System.out.println(title + ": " + what + " answered " + got + ", due is " + due);
        }
    }

    void holds(String what, boolean is) {
        same(what, is ? 1 : 0, 1);
    }

    /** The exception's class has to be just this one, not one below it that the machine throws. */
    void refused(String what, Class<? extends RuntimeException> due, Call call) {
        made++;
        String got;
        try {
            got = "answered " + call.answer();
        } catch (RuntimeException e) {
            if (e.getClass() == due) {
                return;
            }
            got = "threw " + e;
        }
        wrong++;
        System.out.println(title + ": " + what + " " + got + ", due is " + due.getSimpleName());
    }

    void noSuch(String what, Call call) {
        refused(what, IndexOutOfBoundsException.class, call);
    }

    void illegal(String what, Call call) {
        refused(what, IllegalArgumentException.class, call);
    }

    void finish() {
        System.out.println(title + ": " + made + " answers, " + wrong + " not as due");
        if (wrong != 0 || made == 0) {
            System.exit(1);
        }
    }

    /** Puts a text on the empty tape. */
    static void put(CableChart x, String text) {
        put(x, text, 0);
    }

    /** Puts a text on a tape that has some bytes. */
    static void put(CableChart x, String text, int before) {
        byte[] bytes = text.getBytes(StandardCharsets.ISO_8859_1);
        byte[] padded = Arrays.copyOf(bytes, (bytes.length + 19) / 20 * 20);
        for (int i = 0; i < padded.length; i += 20) {
            x.feed(word(padded, i), word(padded, i + 4), word(padded, i + 8), word(padded, i + 12),
                    word(padded, i + 16));
        }
        x.trim(before + bytes.length);
    }

    static int word(byte[] bytes, int at) {
        return (bytes[at] & 255) << 24 | (bytes[at + 1] & 255) << 16 | (bytes[at + 2] & 255) << 8
                | bytes[at + 3] & 255;
    }

    static int teach(CableChart x, String text) {
        put(x, text);
        return x.teach();
    }

    /** A new object that was taught a text without an error. */
    static CableChart taught(String text) {
        CableChart x = new CableChart();
        int error = teach(x, text);
        if (error != 0) {
            throw new AssertionError("error " + error + " at " + x.errorAt() + " in " + text);
        }
        return x;
    }

    static String times(int many, String text) {
        return text.repeat(many);
    }
}
