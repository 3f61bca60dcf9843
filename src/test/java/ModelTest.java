import java.util.ArrayList;
import java.util.List;
import java.util.Random;
import java.util.Set;
import java.util.TreeSet;

/** Asks the class and the model the same random questions, from fixed seeds. */
public final class ModelTest {
    private static final int RUNS = Integer.getInteger("runs", 1500);
    /** What an object answers to later calls is free. */
    private static final int MOST_CALLS = 512;

    interface Answer {
        Object of();
    }

    /** Writes patterns, more often than not such ones as can be knit. */
    static final class Writer {
        final Random random;
        final List<String> out = new ArrayList<>();
        int charts;
        int pieces;
        final boolean wild;

        Writer(Random random) {
            this.random = random;
            wild = random.nextInt(6) == 0;
        }

        boolean chance(int one) {
            return random.nextInt(one) == 0;
        }

        void put(String... tokens) {
            out.addAll(List.of(tokens));
        }

        void number(int usual, int most) {
            int n = chance(12) ? random.nextInt(most) + 1 : random.nextInt(usual) + 1;
            if (wild && chance(40)) {
                n = chance(2) ? 0 : most + 1;
            }
            put(Integer.toString(n));
        }

        String name(String stem, int told) {
            if (wild && chance(25)) {
                return stem + random.nextInt(9);
            }
            return stem + random.nextInt(Math.max(1, told));
        }

        void pattern() {
            int many = chance(15) ? random.nextInt(14) : random.nextInt(6) + 1;
            for (int i = 0; i < many; i++) {
                if (charts > 0 && chance(2)) {
                    piece();
                } else {
                    chart();
                }
                put(";");
            }
        }

        void chart() {
            put("chart", wild && chance(10) ? name("c", charts) : "c" + charts);
            charts++;
            int rows = chance(15) ? 14 : random.nextInt(4) + 1;
            for (int i = 0; i < rows; i++) {
                put("row");
                row();
            }
        }

        void row() {
            int kind = random.nextInt(10);
            if (kind == 0) {
                stitches(0, random.nextInt(4) + 1);
            } else if (kind == 1) {
                put("knit", "rest");
            } else if (kind == 2) {
                put("rep", "rest", "[");
                stitches(1, random.nextInt(2) + 1);
                put("]");
            } else if (kind == 3) {
                put("rep", "rest", "[");
                stitches(1, random.nextInt(2) + 1);
                put("]", "slip", "rest");
            } else {
                stitches(0, random.nextInt(3) + 1);
                put("purl", "rest");
                if (chance(4)) {
                    put("over");
                }
            }
        }

        void stitches(int depth, int many) {
            for (int i = 0; i < many; i++) {
                stitch(depth);
            }
        }

        void stitch(int depth) {
            int kind = random.nextInt(9);
            if (kind < 3) {
                put(List.of("knit", "purl", "slip").get(kind));
                if (chance(2)) {
                    number(3, 60);
                } else if (wild && chance(20)) {
                    put("rest");
                }
            } else if (kind == 3) {
                put("over");
            } else if (kind == 4) {
                put("tog");
            } else if (kind < 7 || depth > 1 && !chance(4)) {
                put("cable");
                number(3, 6);
                put(chance(2) ? "front" : "back");
                number(3, 6);
            } else {
                put("rep");
                if (wild && chance(15)) {
                    put("rest");
                } else {
                    number(3, 30);
                }
                put("[");
                stitches(depth + 1, random.nextInt(2) + 1);
                put("]");
            }
        }

        void piece() {
            put("piece", wild && chance(10) ? name("p", pieces) : "p" + pieces);
            pieces++;
            put("cast");
            number(16, 60);
            put("gauge");
            number(20, 40);
            put("by");
            number(20, 40);
            int works = chance(20) ? 14 : random.nextInt(5);
            for (int i = 0; i < works; i++) {
                put("work", name("c", charts));
                if (chance(2)) {
                    put("times");
                    if (chance(2)) {
                        number(5, 60);
                    } else {
                        sum(0);
                    }
                }
                if (chance(3)) {
                    put("when");
                    test(0);
                }
            }
        }

        void test(int depth) {
            both(depth);
            while (chance(4)) {
                put("or");
                both(depth);
            }
        }

        void both(int depth) {
            single(depth);
            while (chance(4)) {
                put("and");
                single(depth);
            }
        }

        void single(int depth) {
            if (chance(4) && (depth < 4 || wild)) {
                put("not");
                single(depth + 1);
            } else if (chance(5) && (depth < 4 || wild)) {
                put("[");
                test(depth + 1);
                put("]");
            } else if (chance(4) && (pieces > 1 || wild)) {
                put("done", name("p", pieces - 1));
            } else {
                sum(depth);
                put(List.of("<", ">", "=", "<=", ">=").get(random.nextInt(5)));
                sum(depth);
            }
        }

        void sum(int depth) {
            product(depth);
            while (chance(4)) {
                put(chance(2) ? "+" : "-");
                product(depth);
            }
        }

        void product(int depth) {
            value(depth);
            while (chance(4)) {
                put(chance(2) ? "*" : "/");
                value(depth);
            }
        }

        void value(int depth) {
            int kind = random.nextInt(12);
            if (kind < 5) {
                put(List.of("stitches", "rows", "yarn", "holes", "stitches").get(kind));
            } else if (kind < 8 || depth > 3 && !wild) {
                put(Integer.toString(chance(8) ? random.nextInt(1000000) : random.nextInt(20)));
            } else if (kind < 10) {
                put("-");
                value(depth + 1);
            } else if (kind == 10) {
                put("(");
                sum(depth + 1);
                put(")");
            } else {
                put(chance(2) ? "min" : "max", "(");
                sum(depth + 1);
                put(",");
                sum(depth + 1);
                put(")");
            }
        }

        String text() {
            pattern();
            int hurts = chance(5) ? random.nextInt(3) + 1 : 0;
            for (int i = 0; i < hurts && !out.isEmpty(); i++) {
                hurt(random.nextInt(out.size()));
            }
            StringBuilder text = new StringBuilder();
            String last = "";
            for (String token : out) {
                boolean words = !last.isEmpty() && Character.isLetterOrDigit(last.charAt(0))
                        && Character.isLetterOrDigit(token.charAt(0));
                if (words || chance(3)) {
                    text.append(chance(6) ? "\n" : chance(9) ? "  " : " ");
                }
                text.append(token);
                last = token;
            }
            if (chance(60) && text.length() > 0) {
                text.setCharAt(random.nextInt(text.length()), (char) random.nextInt(256));
            }
            return text.substring(0, Math.min(2000, text.length()));
        }

        private void hurt(int at) {
            List<String> other = List.of("chart", "row", "knit", "rest", "rep", "[", "]", "(", ")",
                    ";", ",", "-", "not", "done", "<", "7", "0", "999999", "1000000", "name",
                    "abcdefghij", "abcdefghijk", "times", "when", "work", "c0", "p0", "#", "min");
            switch (random.nextInt(4)) {
                case 0:
                    out.remove(at);
                    break;
                case 1:
                    out.add(at, other.get(random.nextInt(other.size())));
                    break;
                case 2:
                    out.set(at, other.get(random.nextInt(other.size())));
                    break;
                default:
                    out.add(at, out.get(random.nextInt(out.size())));
            }
        }
    }

    private static Object outcome(Answer answer) {
        try {
            return answer.of();
        } catch (RuntimeException e) {
            return e.getClass().getName();
        }
    }

    private final Random random;
    private final CableChart x = new CableChart();
    private final Model m = new Model();
    private final StringBuilder log = new StringBuilder();
    private int calls;

    private ModelTest(long seed) {
        random = new Random(seed);
    }

    private void ask(String call, Answer got, Answer due) {
        if (calls == MOST_CALLS) {
            return;
        }
        calls++;
        Object a = outcome(got);
        Object b = outcome(due);
        log.append(call).append(" -> ").append(a).append('\n');
        if (!a.equals(b)) {
            System.out.print(log);
            System.out.println(call + " answered " + a + ", due is " + b);
            System.exit(1);
        }
    }

    private int some(int most) {
        int kind = random.nextInt(30);
        if (kind == 0) {
            return random.nextInt();
        }
        if (kind == 1) {
            return random.nextBoolean() ? Integer.MIN_VALUE : Integer.MAX_VALUE;
        }
        return kind == 2 ? -1 : random.nextInt(most + 1);
    }

    private void teach() {
        teach(new Writer(random).text());
    }

    private void teach(String text) {
        log.append("---- ").append(text.replace("\n", "\\n")).append('\n');
        byte[] bytes = java.util.Arrays.copyOf(text.getBytes(
                java.nio.charset.StandardCharsets.ISO_8859_1), (text.length() + 19) / 20 * 20);
        for (int i = 0; i < bytes.length; i += 20) {
            int a = Checks.word(bytes, i);
            int b = Checks.word(bytes, i + 4);
            int c = Checks.word(bytes, i + 8);
            int d = Checks.word(bytes, i + 12);
            int e = Checks.word(bytes, i + 16);
            ask("feed", () -> x.feed(a, b, c, d, e), () -> m.feed(a, b, c, d, e));
        }
        if (random.nextInt(20) == 0) {
            int n = some(2000);
            ask("trim " + n, () -> x.trim(n), () -> m.trim(n));
        } else {
            ask("trim", () -> x.trim(text.length()), () -> m.trim(text.length()));
        }
        ask("teach", x::teach, () -> lessons(m.teach()));
        ask("errorAt", x::errorAt, m::errorAt);
    }

    private static final int[] LESSONS = new int[7];

    private static int lessons(int error) {
        LESSONS[error]++;
        return error;
    }

    private void question() {
        int p = some(4);
        int r = some(random.nextBoolean() ? 5 : 81);
        int s = some(random.nextBoolean() ? 12 : 61);
        int w = some(8);
        int t = some(random.nextBoolean() ? 16 : 90);
        String args = " " + p + " " + r + " " + s + " " + w + " " + t;
        switch (random.nextInt(20)) {
            case 0: ask("count" + args, () -> x.count(w), () -> m.count(w)); break;
            case 1: ask("chart" + args, () -> x.chart(w, p, r & 1), () -> m.chart(w, p, r & 1));
                break;
            case 2: ask("chart" + args, () -> x.chart(p, r, w), () -> m.chart(p, r, w)); break;
            case 3: ask("fits" + args, () -> x.fits(w, s), () -> m.fits(w, s)); break;
            case 4: case 5: case 6: ask("knit" + args, () -> x.knit(p), () -> m.knit(p)); break;
            case 7: ask("cast" + args, () -> x.cast(p, s), () -> m.cast(p, s)); break;
            case 8: ask("piece" + args, () -> x.piece(p, w), () -> m.piece(p, w)); break;
            case 9: ask("stitch" + args, () -> x.stitch(p, r, s, w & 1),
                    () -> m.stitch(p, r, s, w & 1)); break;
            case 10: ask("stitch" + args, () -> x.stitch(p, r, s, w),
                    () -> m.stitch(p, r, s, w)); break;
            case 11: ask("many" + args, () -> x.many(p, r), () -> m.many(p, r)); break;
            case 12: ask("where" + args, () -> x.where(p, t, r), () -> m.where(p, t, r)); break;
            case 13: ask("crosses" + args, () -> x.crosses(p, s, t), () -> m.crosses(p, s, t));
                break;
            case 14: ask("wide" + args, () -> x.wide(p, r), () -> m.wide(p, r)); break;
            case 15: ask("high" + args, () -> x.high(p), () -> m.high(p)); break;
            case 16: ask("front" + args, () -> x.front(p), () -> m.front(p)); break;
            case 17: ask("needs" + args, () -> x.needs(p), () -> m.needs(p)); break;
            case 18: ask("would" + args, () -> x.would(p, s, w & 3),
                    () -> m.would(p, s, w & 3)); break;
            default: ask("would" + args, () -> x.would(p, s, w), () -> m.would(p, s, w));
        }
    }

    private void crossings() {
        for (int p = 0; p < m.count(1); p++) {
            for (int a = 0; a < 8; a++) {
                for (int b = 0; b < 8; b++) {
                    int piece = p;
                    int one = a;
                    int other = b;
                    ask("crosses", () -> x.crosses(piece, one, other),
                            () -> m.crosses(piece, one, other));
                }
            }
        }
    }

    private void whole() {
        ask("mean", x::mean, m::mean);
        ask("digest", x::digest, m::digest);
    }

    /** Each token behind each beginning of a pattern: whether it is due, and where it is not. */
    private static int eachToken() {
        String[] whole = Checks.WHOLE.split(" ");
        Set<String> tokens = new TreeSet<>(List.of(whole));
        tokens.addAll(List.of("name", "0", "60", "#", "1000000", "abcdefghijk", ""));
        StringBuilder start = new StringBuilder();
        int calls = 0;
        for (String next : whole) {
            for (String token : tokens) {
                ModelTest test = new ModelTest(0L);
                test.teach(start + token);
                test.teach(start + token + " " + next);
                test.teach(start + token + " ;");
                calls += test.calls;
            }
            start.append(next).append(' ');
        }
        return calls;
    }

    public static void main(String[] args) {
        int calls = eachToken();
        int[] errors = new int[12];
        for (int run = 0; run < RUNS; run++) {
            ModelTest test = new ModelTest(20261119L + run);
            int lessons = run % 20 == 0 ? 1 : test.random.nextInt(3) + 1;
            for (int i = 0; i < lessons; i++) {
                test.teach();
                int most = run % 20 == 0 ? 9 : 20 + test.random.nextInt(40);
                for (int k = 0; k < most; k++) {
                    test.question();
                    if (test.random.nextInt(10) == 0) {
                        test.whole();
                    }
                }
                for (int p = 0; p < test.m.count(1); p++) {
                    int piece = p;
                    test.ask("knit " + p, () -> test.x.knit(piece), () -> test.m.knit(piece));
                    errors[Math.max(0, test.m.piece(p, 5))]++;
                }
                test.whole();
            }
            if (run % 20 == 0) {
                test.crossings();
            }
            calls += test.calls;
        }
        System.out.println("ModelTest: " + calls + " answers as the model's; knittings with error 0"
                + ", 8, 9, 10, 11: " + errors[0] + ", " + errors[8] + ", " + errors[9] + ", "
                + errors[10] + ", " + errors[11] + "; lessons with error 0 to 6: "
                + java.util.Arrays.toString(LESSONS));
    }
}
