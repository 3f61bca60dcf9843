import java.nio.charset.StandardCharsets;
import java.util.ArrayList;
import java.util.Arrays;
import java.util.HashMap;
import java.util.HashSet;
import java.util.LinkedHashMap;
import java.util.List;
import java.util.Map;
import java.util.Set;
import java.util.regex.Matcher;

/**
 * The document once more, told in another way: a tree of closures, lists that grow, and
 * exceptions for errors. The model test asks the class and this one the same questions.
 */
final class Model {
    private static final Set<String> KEYWORDS = Set.of(("chart row knit purl slip over tog cable "
            + "front back rep rest piece cast gauge by work times when stitches rows yarn holes "
            + "done not and or min max").split(" "));
    private static final java.util.regex.Pattern TOKEN = java.util.regex.Pattern.compile(
            "[a-z][a-z0-9]*|[0-9]+|<=|>=|[-()\\[\\];,+*/<>=]");

    static final class Fault extends RuntimeException {
        final int error;
        final int position;

        Fault(int error, int position) {
            super(null, null, false, false);
            this.error = error;
            this.position = position;
        }
    }

    static final class RowFault extends RuntimeException {
        final int error;

        RowFault(int error) {
            super(null, null, false, false);
            this.error = error;
        }
    }

    record Token(String text, int position) {
        boolean isNumber() {
            return !text.isEmpty() && Character.isDigit(text.charAt(0));
        }

        boolean isName() {
            return !text.isEmpty() && text.charAt(0) >= 'a' && text.charAt(0) <= 'z'
                    && !KEYWORDS.contains(text);
        }
    }

    interface Sum {
        int value(Knitting k);
    }

    interface Test {
        boolean holds(Knitting k);
    }

    /** op is a keyword; times -1 is rest, and body is empty but for rep. */
    record Stitch(String op, int times, int held, int others, boolean front, List<Stitch> body) {
    }

    record Work(String chart, Sum times, Test test) {
    }

    record Mesh(int sort, int strand) {
    }

    static final class Made {
        final List<List<Mesh>> rows = new ArrayList<>();
        final List<Integer> cablesIn = new ArrayList<>();
        final Map<List<Integer>, Integer> crossed = new HashMap<>();
        int yarn;
        int holes;
        int cables;
        int strands;
        int error;
    }

    static final class Told {
        int cast;
        int wide;
        int high;
        final List<Work> works = new ArrayList<>();
        Made made;
    }

    record Knitting(Made made, Set<String> done) {
    }

    private byte[] tape = new byte[0];
    private int errorAt = -1;
    private Map<String, List<List<Stitch>>> charts = new LinkedHashMap<>();
    private Map<String, Told> pieces = new LinkedHashMap<>();

    // ---- reading

    private List<Token> tokens;
    private int at;
    /** Each error 2 to 6 in the order in which it is met: the least position wins, then error. */
    private final List<Fault> faults = new ArrayList<>();
    private Map<String, List<List<Stitch>>> newCharts;
    private Map<String, Told> newPieces;

    private List<Token> tokenise() {
        String text = new String(tape, StandardCharsets.ISO_8859_1);
        List<Token> list = new ArrayList<>();
        Matcher matcher = TOKEN.matcher(text);
        int i = 0;
        while (i < text.length()) {
            if (text.charAt(i) == ' ' || text.charAt(i) == '\n') {
                i++;
                continue;
            }
            matcher.region(i, text.length());
            boolean good = matcher.lookingAt() && list.size() < 400;
            String token = good ? matcher.group() : "";
            boolean digits = good && Character.isDigit(token.charAt(0));
            if (!good || token.length() > (digits ? 6 : 10)) {
                list.add(new Token("\0", i));
                return list;
            }
            list.add(new Token(token, i));
            i += token.length();
        }
        list.add(new Token("", text.length()));
        return list;
    }

    private Token next() {
        return tokens.get(at);
    }

    private boolean is(String text) {
        return next().text.equals(text);
    }

    private Fault wrong() {
        return new Fault(1, next().position);
    }

    private Token take(String text) {
        if (!is(text)) {
            throw wrong();
        }
        return tokens.get(at++);
    }

    private Token takeName() {
        if (!next().isName()) {
            throw wrong();
        }
        return tokens.get(at++);
    }

    private int takeNumber(int most) {
        if (!next().isNumber()) {
            throw wrong();
        }
        Token token = tokens.get(at++);
        int value = Integer.parseInt(token.text);
        if (value < 1 || value > most) {
            faults.add(new Fault(5, token.position));
        }
        return value;
    }

    private int deeper(String text, int depth) {
        if (!is(text) || depth == 8) {
            throw wrong();
        }
        at++;
        return depth + 1;
    }

    private void readPattern() {
        while (!is("")) {
            if (is("chart")) {
                readChart();
            } else if (is("piece")) {
                readPiece();
            } else {
                throw wrong();
            }
            take(";");
        }
    }

    private void readChart() {
        take("chart");
        Token name = takeName();
        if (newCharts.containsKey(name.text)) {
            faults.add(new Fault(2, name.position));
        } else if (newCharts.size() == 8) {
            faults.add(new Fault(4, name.position));
        }
        List<List<Stitch>> rows = new ArrayList<>();
        newCharts.put(name.text, rows);
        do {
            Token row = take("row");
            if (rows.size() == 12) {
                faults.add(new Fault(4, row.position));
            }
            rows.add(readStitches(0, false));
        } while (is("row"));
    }

    private static final Set<String> STITCHES =
            Set.of("knit", "purl", "slip", "over", "tog", "cable", "rep");

    private List<Stitch> readStitches(int depth, boolean inRep) {
        List<Stitch> list = new ArrayList<>();
        do {
            list.add(readStitch(depth, inRep));
        } while (STITCHES.contains(next().text));
        return list;
    }

    private int readRestOrNumber(int most, boolean inRep) {
        if (is("rest")) {
            if (inRep) {
                faults.add(new Fault(6, next().position));
            }
            at++;
            return -1;
        }
        return takeNumber(most);
    }

    private Stitch readStitch(int depth, boolean inRep) {
        String op = next().text;
        switch (op) {
            case "knit": case "purl": case "slip": {
                at++;
                int times = is("rest") || next().isNumber() ? readRestOrNumber(60, inRep) : 1;
                return new Stitch(op, times, 0, 0, false, List.of());
            }
            case "over": case "tog":
                at++;
                return new Stitch(op, 1, 0, 0, false, List.of());
            case "cable": {
                at++;
                int held = takeNumber(6);
                boolean front = is("front");
                take(front ? "front" : "back");
                return new Stitch(op, 1, held, takeNumber(6), front, List.of());
            }
            case "rep": {
                at++;
                int times = readRestOrNumber(30, inRep);
                int inner = deeper("[", depth);
                List<Stitch> body = readStitches(inner, true);
                take("]");
                return new Stitch(op, times, 0, 0, false, body);
            }
            default:
                throw wrong();
        }
    }

    private void readPiece() {
        take("piece");
        Token name = takeName();
        if (newPieces.containsKey(name.text)) {
            faults.add(new Fault(2, name.position));
        } else if (newPieces.size() == 4) {
            faults.add(new Fault(4, name.position));
        }
        Told told = new Told();
        take("cast");
        told.cast = takeNumber(60);
        take("gauge");
        told.wide = takeNumber(40);
        take("by");
        told.high = takeNumber(40);
        while (is("work")) {
            if (told.works.size() == 12) {
                faults.add(new Fault(4, next().position));
            }
            at++;
            Token chart = takeName();
            if (!newCharts.containsKey(chart.text)) {
                faults.add(new Fault(3, chart.position));
            }
            Sum times = k -> 1;
            Test test = k -> true;
            if (is("times")) {
                at++;
                times = readSum(0);
            }
            if (is("when")) {
                at++;
                test = readTest(0);
            }
            told.works.add(new Work(chart.text, times, test));
        }
        newPieces.put(name.text, told);
    }

    private Test readTest(int depth) {
        Test left = readBoth(depth);
        while (is("or")) {
            at++;
            Test a = left;
            Test b = readBoth(depth);
            left = k -> a.holds(k) | b.holds(k);
        }
        return left;
    }

    private Test readBoth(int depth) {
        Test left = readSingle(depth);
        while (is("and")) {
            at++;
            Test a = left;
            Test b = readSingle(depth);
            left = k -> a.holds(k) & b.holds(k);
        }
        return left;
    }

    private Test readSingle(int depth) {
        if (is("not")) {
            Test a = readSingle(deeper("not", depth));
            return k -> !a.holds(k);
        }
        if (is("[")) {
            Test a = readTest(deeper("[", depth));
            take("]");
            return a;
        }
        if (is("done")) {
            at++;
            Token name = takeName();
            if (!newPieces.containsKey(name.text)) {
                faults.add(new Fault(3, name.position));
            }
            return k -> k.done.contains(name.text);
        }
        Sum a = readSum(depth);
        String sign = next().text;
        if (!Set.of("<", ">", "=", "<=", ">=").contains(sign)) {
            throw wrong();
        }
        at++;
        Sum b = readSum(depth);
        return k -> {
            int order = Integer.compare(a.value(k), b.value(k));
            return sign.contains("<") && order < 0 || sign.contains(">") && order > 0
                    || sign.contains("=") && order == 0;
        };
    }

    private Sum readSum(int depth) {
        Sum left = readProduct(depth);
        while (is("+") || is("-")) {
            boolean plus = is("+");
            at++;
            Sum a = left;
            Sum b = readProduct(depth);
            left = k -> (int) ((long) a.value(k) + (plus ? 1L : -1L) * b.value(k));
        }
        return left;
    }

    private Sum readProduct(int depth) {
        Sum left = readValue(depth);
        while (is("*") || is("/")) {
            boolean star = is("*");
            at++;
            Sum a = left;
            Sum b = readValue(depth);
            left = k -> {
                long x = a.value(k);
                long y = b.value(k);
                return star ? (int) (x * y) : y == 0 ? 0 : (int) (x / y);
            };
        }
        return left;
    }

    private Sum readValue(int depth) {
        Token token = next();
        if (token.isNumber()) {
            at++;
            int value = Integer.parseInt(token.text);
            return k -> value;
        }
        switch (token.text) {
            case "stitches":
                at++;
                return k -> k.made.rows.get(k.made.rows.size() - 1).size();
            case "rows":
                at++;
                return k -> k.made.rows.size() - 1;
            case "yarn":
                at++;
                return k -> k.made.yarn;
            case "holes":
                at++;
                return k -> k.made.holes;
            case "-": {
                Sum a = readValue(deeper("-", depth));
                return k -> (int) (0L - a.value(k));
            }
            case "(": {
                Sum a = readSum(deeper("(", depth));
                take(")");
                return a;
            }
            case "min": case "max": {
                at++;
                int inner = deeper("(", depth);
                Sum a = readSum(inner);
                take(",");
                Sum b = readSum(inner);
                take(")");
                boolean least = token.text.equals("min");
                return k -> least == a.value(k) < b.value(k) ? a.value(k) : b.value(k);
            }
            default:
                throw wrong();
        }
    }

    // ---- knitting

    private static final class Row {
        final List<Mesh> from;
        final List<Mesh> to = new ArrayList<>();
        final List<int[]> crossed = new ArrayList<>();
        int taken;
        int yarn;
        int holes;
        int cables;
        int strands;

        Row(List<Mesh> from, int strands) {
            this.from = from;
            this.strands = strands;
        }

        int left() {
            return from.size() - taken;
        }

        Mesh take() {
            return from.get(taken++);
        }

        void need(int stitches) {
            if (left() < stitches) {
                throw new RowFault(8);
            }
        }

        void give(int sort, int strand) {
            if (to.size() == 60) {
                throw new RowFault(10);
            }
            to.add(new Mesh(sort, strand));
        }

        void workAll(List<Stitch> stitches) {
            for (Stitch stitch : stitches) {
                work(stitch);
            }
        }

        void work(Stitch s) {
            switch (s.op) {
                case "knit": case "purl": case "slip":
                    for (int i = s.times < 0 ? left() : s.times; i > 0; i--) {
                        need(1);
                        give(List.of("knit", "purl", "slip").indexOf(s.op) + 1, take().strand);
                        yarn += s.op.equals("slip") ? 0 : 1;
                    }
                    break;
                case "over":
                    give(4, strands++);
                    yarn++;
                    holes++;
                    break;
                case "tog":
                    need(2);
                    give(5, take().strand);
                    take();
                    yarn += 2;
                    break;
                case "cable":
                    cable(s);
                    break;
                default:
                    if (s.times >= 0) {
                        for (int i = 0; i < s.times; i++) {
                            workAll(s.body);
                        }
                    } else {
                        double takes = total(s.body, true);
                        while (takes > 0 && left() >= takes) {
                            workAll(s.body);
                        }
                    }
            }
        }

        private void cable(Stitch s) {
            need(s.held + s.others);
            List<Mesh> held = new ArrayList<>();
            for (int i = 0; i < s.held; i++) {
                held.add(take());
            }
            List<Mesh> others = new ArrayList<>();
            for (int i = 0; i < s.others; i++) {
                others.add(take());
            }
            cables++;
            others.forEach(m -> give(s.front ? 7 : 6, m.strand));
            held.forEach(m -> give(s.front ? 6 : 7, m.strand));
            yarn += 2 * (s.held + s.others);
            for (Mesh h : held) {
                for (Mesh o : others) {
                    crossed.add(s.front ? new int[] {h.strand, o.strand}
                            : new int[] {o.strand, h.strand});
                }
            }
        }
    }

    /** Doubles don't wrap around, and are exact up to far beyond the greatest that is told. */
    static double total(List<Stitch> stitches, boolean takes) {
        double sum = 0;
        for (Stitch s : stitches) {
            switch (s.op) {
                case "over": sum += takes ? 0 : 1; break;
                case "tog": sum += takes ? 2 : 1; break;
                case "cable": sum += s.held + s.others; break;
                case "rep": sum += s.times * total(s.body, takes); break;
                default: sum += s.times;
            }
        }
        return sum;
    }

    static boolean hasRest(List<Stitch> stitches) {
        for (Stitch s : stitches) {
            if (s.times < 0 || hasRest(s.body)) {
                return true;
            }
        }
        return false;
    }

    private Made castOn(int stitches) {
        Made made = new Made();
        List<Mesh> row = new ArrayList<>();
        for (int i = 0; i < stitches; i++) {
            row.add(new Mesh(0, i));
        }
        made.rows.add(row);
        made.cablesIn.add(0);
        made.strands = stitches;
        return made;
    }

    private void workRow(Made made, List<Stitch> stitches) {
        if (made.rows.size() == 81) {
            throw new RowFault(11);
        }
        Row row = new Row(made.rows.get(made.rows.size() - 1), made.strands);
        row.workAll(stitches);
        if (row.left() > 0) {
            throw new RowFault(9);
        }
        made.rows.add(row.to);
        made.cablesIn.add(row.cables);
        made.yarn += row.yarn;
        made.holes += row.holes;
        made.cables += row.cables;
        made.strands = row.strands;
        for (int[] pair : row.crossed) {
            made.crossed.merge(List.of(pair[0], pair[1]), 1, Integer::sum);
        }
    }

    private Made knitted(Told told, int stitches) {
        Made made = castOn(stitches);
        Set<String> done = new HashSet<>();
        pieces.forEach((name, piece) -> {
            if (piece.made != null && piece.made.error == 0) {
                done.add(name);
            }
        });
        Knitting k = new Knitting(made, done);
        try {
            for (Work work : told.works) {
                int times = work.test.holds(k) ? work.times.value(k) : 0;
                for (int i = 0; i < times && i < 40; i++) {
                    for (List<Stitch> row : charts.get(work.chart)) {
                        workRow(made, row);
                    }
                }
            }
        } catch (RowFault e) {
            made.error = e.error;
        }
        return made;
    }

    // ---- the face

    private static void within(int i, int length) {
        if (i < 0 || i >= length) {
            throw new IndexOutOfBoundsException();
        }
    }

    private static void legal(boolean is) {
        if (!is) {
            throw new IllegalArgumentException();
        }
    }

    private Told told(int piece) {
        within(piece, pieces.size());
        return new ArrayList<>(pieces.values()).get(piece);
    }

    private List<List<Stitch>> chartRows(int chart) {
        within(chart, charts.size());
        return new ArrayList<>(charts.values()).get(chart);
    }

    int feed(int a, int b, int c, int d, int e) {
        if (tape.length + 20 > 2000) {
            throw new IllegalStateException();
        }
        java.nio.ByteBuffer buffer = java.nio.ByteBuffer.allocate(tape.length + 20);
        buffer.put(tape).putInt(a).putInt(b).putInt(c).putInt(d).putInt(e);
        tape = buffer.array();
        return tape.length;
    }

    int trim(int n) {
        legal(n >= 0 && n <= tape.length);
        tape = Arrays.copyOf(tape, n);
        return n;
    }

    int teach() {
        tokens = tokenise();
        tape = new byte[0];
        at = 0;
        faults.clear();
        newCharts = new LinkedHashMap<>();
        newPieces = new LinkedHashMap<>();
        Fault first = null;
        try {
            readPattern();
        } catch (Fault e) {
            first = e;
        }
        if (first == null) {
            for (Fault f : faults) {
                if (first == null || f.position < first.position
                        || f.position == first.position && f.error < first.error) {
                    first = f;
                }
            }
        }
        if (first != null) {
            errorAt = first.position;
            return first.error;
        }
        errorAt = -1;
        charts = newCharts;
        pieces = newPieces;
        return 0;
    }

    int errorAt() {
        return errorAt;
    }

    int count(int what) {
        within(what, 7);
        int done = 0;
        int rows = 0;
        int yarn = 0;
        int holes = 0;
        for (Told told : pieces.values()) {
            if (told.made != null) {
                done += told.made.error == 0 ? 1 : 0;
                rows += told.made.rows.size() - 1;
                yarn += told.made.yarn;
                holes += told.made.holes;
            }
        }
        return List.of(charts.size(), pieces.size(), done, rows, yarn, holes,
                tape.length).get(what);
    }

    int chart(int chart, int row, int what) {
        List<List<Stitch>> rows = chartRows(chart);
        within(row, rows.size());
        within(what, 2);
        return hasRest(rows.get(row)) ? -1
                : (int) Math.min(1000000.0, total(rows.get(row), what == 0));
    }

    int fits(int chart, int stitches) {
        List<List<Stitch>> rows = chartRows(chart);
        legal(stitches >= 1 && stitches <= 60);
        Made made = castOn(stitches);
        try {
            for (List<Stitch> row : rows) {
                workRow(made, row);
            }
        } catch (RowFault e) {
            return made.rows.size() - 1;
        }
        return made.rows.size() - 1;
    }

    int knit(int piece) {
        Told told = told(piece);
        told.made = knitted(told, told.cast);
        return told.made.error;
    }

    int cast(int piece, int stitches) {
        Told told = told(piece);
        legal(stitches >= 1 && stitches <= 60);
        int old = told.cast;
        told.cast = stitches;
        told.made = null;
        return old;
    }

    int piece(int piece, int what) {
        Told told = told(piece);
        within(what, 8);
        Made made = told.made;
        if (made == null) {
            return what == 0 ? told.cast : what == 5 ? -1 : 0;
        }
        return List.of(told.cast, made.rows.size() - 1, made.rows.get(made.rows.size() - 1).size(),
                made.yarn, made.holes, made.error, made.strands, made.cables).get(what);
    }

    private List<Mesh> row(int piece, int row) {
        Made made = told(piece).made;
        within(row, made == null ? 0 : made.rows.size());
        return made.rows.get(row);
    }

    int stitch(int piece, int row, int column, int what) {
        List<Mesh> list = row(piece, row);
        within(column, list.size());
        within(what, 2);
        return what == 0 ? list.get(column).sort : list.get(column).strand;
    }

    int many(int piece, int row) {
        return row(piece, row).size();
    }

    int where(int piece, int strand, int row) {
        return row(piece, row).stream().map(Mesh::strand).toList().indexOf(strand);
    }

    int crosses(int piece, int a, int b) {
        Made made = told(piece).made;
        return made == null ? 0 : made.crossed.getOrDefault(List.of(a, b), 0);
    }

    int wide(int piece, int row) {
        int stitches = row(piece, row).size();
        Told told = told(piece);
        return (10 * stitches - 3 * told.made.cablesIn.get(row)) * 10 / told.wide;
    }

    int high(int piece) {
        Told told = told(piece);
        return told.made == null ? 0 : 100 * (told.made.rows.size() - 1) / told.high;
    }

    int front(int piece) {
        Made made = told(piece).made;
        if (made == null) {
            return -1;
        }
        Map<Integer, Integer> sums = new java.util.TreeMap<>();
        made.crossed.forEach((pair, often) -> sums.merge(pair.get(0), often, Integer::sum));
        int front = -1;
        for (Map.Entry<Integer, Integer> sum : sums.entrySet()) {
            if (front < 0 || sum.getValue() > sums.get(front)) {
                front = sum.getKey();
            }
        }
        return front;
    }

    int needs(int piece) {
        Told told = told(piece);
        for (int stitches = 1; stitches <= 60; stitches++) {
            if (knitted(told, stitches).error == 0) {
                return stitches;
            }
        }
        return -1;
    }

    int would(int piece, int stitches, int what) {
        Told told = told(piece);
        legal(stitches >= 1 && stitches <= 60);
        legal(what >= 0 && what <= 3);
        Made made = knitted(told, stitches);
        return List.of(made.error, made.rows.size() - 1,
                made.rows.get(made.rows.size() - 1).size(), made.yarn).get(what);
    }

    double mean() {
        return count(3) == 0 ? 0 : (double) count(4) / count(3);
    }

    long digest() {
        List<Integer> numbers = new ArrayList<>();
        for (int what = 0; what < 7; what++) {
            numbers.add(count(what));
        }
        for (int c = 0; c < charts.size(); c++) {
            for (int r = 0; r < chartRows(c).size(); r++) {
                numbers.add(chart(c, r, 0));
                numbers.add(chart(c, r, 1));
            }
        }
        for (int p = 0; p < pieces.size(); p++) {
            for (int what = 0; what < 8; what++) {
                numbers.add(piece(p, what));
            }
            numbers.add(high(p));
            numbers.add(front(p));
            Made made = told(p).made;
            for (int r = 0; made != null && r < made.rows.size(); r++) {
                numbers.add(wide(p, r));
                for (Mesh mesh : made.rows.get(r)) {
                    numbers.add(mesh.sort);
                    numbers.add(mesh.strand);
                }
            }
        }
        long d = 769;
        for (int number : numbers) {
            d = d * 31 + number;
        }
        return d;
    }
}
