/**
 * A language of cable stitch patterns: charts are told on a tape, pieces are knit by them,
 * and it is told what becomes of their stitches.
 */
public final class CableChart {
    private static final int MOST_CHARTS = 8;
    private static final int MOST_ROWS_OF_CHART = 12;
    private static final int MOST_PIECES = 4;
    private static final int MOST_WORKS = 12;
    private static final int MOST_STITCHES = 60;
    private static final int MOST_ROWS = 80;
    private static final int MOST_TIMES = 40;
    private static final int MOST_DEPTH = 8;
    /** Each row but the first can put over a whole row of new strands. */
    private static final int MOST_STRANDS = MOST_STITCHES * (MOST_ROWS + 1);
    private static final int MOST_TOLD = 1000000;
    private static final int NUMBERS_OF_COUNT = 7;
    private static final int NUMBERS_OF_PIECE = 8;
    private static final int NOT_DUE = 1;
    private static final int NAMED_BEFORE = 2;
    private static final int NOT_TOLD = 3;
    private static final int TOO_MANY = 4;
    private static final int OUT_OF_RANGE = 5;
    private static final int REST_IN_REP = 6;
    private static final int UNKNIT = -1;
    private static final int TAKES_TOO_MANY = 8;
    private static final int LEAVES_SOME = 9;
    private static final int GIVES_TOO_MANY = 10;
    private static final int ROW_TOO_MANY = 11;
    private static final Kind[] KINDS = Kind.values();

    private final Tape tape;
    private Pattern told;
    /** teach reads into this one, so that an error leaves the told one as it is. */
    private Pattern spare;
    private final Piece[] pieces;
    /** Knits what would be, so that the pieces stay as they are. */
    private final Piece trial;
    private final Needles needles;
    private final int[] tally;
    private int faultAt;

    public CableChart() {
        tape = new Tape();
        told = new Pattern();
        spare = new Pattern();
        pieces = new Piece[MOST_PIECES];
        for (int i = 0; i < MOST_PIECES; i++) {
            pieces[i] = new Piece();
        }
        trial = new Piece();
        needles = new Needles();
        tally = new int[MOST_STRANDS];
        faultAt = -1;
    }

    // ---- the language

    public int feed(int a, int b, int c, int d, int e) throws IllegalStateException {
        if (!tape.hasRoom()) {
            throw new IllegalStateException("the tape is full");
        }
        tape.append(a);
        tape.append(b);
        tape.append(c);
        tape.append(d);
        tape.append(e);
        return tape.length;
    }

    public int trim(int n) throws IllegalArgumentException {
        if (n < 0 || n > tape.length) {
            throw new IllegalArgumentException("the tape has not so many bytes");
        }
        tape.length = n;
        return n;
    }

    public int teach() {
        spare.tokens.read(tape);
        tape.length = 0;
        spare.reader.readAll();
        int error = spare.enterTokens();
        faultAt = spare.faultAt;
        if (error == 0) {
            Pattern old = told;
            told = spare;
            spare = old;
            tellPieces();
        }
        return error;
    }

    public int errorAt() {
        return faultAt;
    }

    public int count(int what) throws IndexOutOfBoundsException {
        requireWithin(what, NUMBERS_OF_COUNT);
        return counted(what);
    }

    // ---- charts

    public int chart(int chart, int row, int what) throws IndexOutOfBoundsException {
        requireWithin(chart, told.charts);
        requireWithin(row, told.rowsOf(chart));
        requireWithin(what, 2);
        return told.measureRow(chart, row, what == 1);
    }

    public int fits(int chart, int stitches)
            throws IndexOutOfBoundsException, IllegalArgumentException {
        requireWithin(chart, told.charts);
        requireStitches(stitches);
        trial.castStitches(stitches);
        trial.workChart(told, chart, needles);
        return trial.rows;
    }

    // ---- knitting

    public int knit(int piece) throws IndexOutOfBoundsException {
        Piece asked = pieceAt(piece);
        return asked.knitUp(told, piece, asked.castOn, donePieces(), needles);
    }

    public int cast(int piece, int stitches)
            throws IndexOutOfBoundsException, IllegalArgumentException {
        Piece asked = pieceAt(piece);
        requireStitches(stitches);
        int old = asked.castOn;
        asked.castOn = stitches;
        asked.unravel();
        return old;
    }

    public int piece(int piece, int what) throws IndexOutOfBoundsException {
        Piece asked = pieceAt(piece);
        requireWithin(what, NUMBERS_OF_PIECE);
        return asked.number(what);
    }

    public int stitch(int piece, int row, int column, int what) throws IndexOutOfBoundsException {
        Piece asked = pieceAt(piece);
        requireWithin(row, asked.rowsWithCastOn());
        requireWithin(column, asked.stitchesIn(row));
        requireWithin(what, 2);
        int cell = asked.cellAt(row, column);
        return what == 0 ? Cell.sort(cell) : Cell.strand(cell);
    }

    public int many(int piece, int row) throws IndexOutOfBoundsException {
        return pieceWithRow(piece, row).stitchesIn(row);
    }

    public int where(int piece, int strand, int row) throws IndexOutOfBoundsException {
        return pieceWithRow(piece, row).columnOf(strand, row);
    }

    public int crosses(int piece, int a, int b) throws IndexOutOfBoundsException {
        return pieceAt(piece).crossingsOf(a, b);
    }

    public int wide(int piece, int row) throws IndexOutOfBoundsException {
        return pieceWithRow(piece, row).width(row);
    }

    public int high(int piece) throws IndexOutOfBoundsException {
        return pieceAt(piece).height();
    }

    public int front(int piece) throws IndexOutOfBoundsException {
        return pieceAt(piece).frontStrand(tally);
    }

    // ---- what would be

    public int needs(int piece) throws IndexOutOfBoundsException {
        requireWithin(piece, told.pieces);
        int done = donePieces();
        for (int stitches = 1; stitches <= MOST_STITCHES; stitches++) {
            if (trial.knitUp(told, piece, stitches, done, needles) == 0) {
                return stitches;
            }
        }
        return -1;
    }

    public int would(int piece, int stitches, int what)
            throws IndexOutOfBoundsException, IllegalArgumentException {
        requireWithin(piece, told.pieces);
        requireStitches(stitches);
        if (what < 0 || what > 3) {
            throw new IllegalArgumentException("what is not 0 to 3");
        }
        int error = trial.knitUp(told, piece, stitches, donePieces(), needles);
        switch (what) {
            case 0:
                return error;
            case 1:
                return trial.rows;
            case 2:
                return trial.stitchesIn(trial.rows);
            default:
                return trial.yarn;
        }
    }

    public double mean() {
        int rows = summed(Piece.NUMBER_OF_ROWS);
        int yarn = summed(Piece.NUMBER_OF_YARN);
        return rows == 0 ? 0.0 : (double) yarn / (double) rows;
    }

    public long digest() {
        long sum = 769L;
        for (int what = 0; what < NUMBERS_OF_COUNT; what++) {
            sum = sum * 31L + counted(what);
        }
        for (int chart = 0; chart < told.charts; chart++) {
            for (int row = 0; row < told.rowsOf(chart); row++) {
                sum = sum * 31L + told.measureRow(chart, row, false);
                sum = sum * 31L + told.measureRow(chart, row, true);
            }
        }
        for (int i = 0; i < told.pieces && i < MOST_PIECES; i++) {
            sum = pieces[i].digestFrom(sum, tally);
        }
        return sum;
    }

    // ---- helpers

    private static void requireWithin(int index, int length) {
        if (index < 0 || index >= length) {
            throw new IndexOutOfBoundsException("there is no such thing");
        }
    }

    private static void requireStitches(int stitches) {
        if (stitches < 1 || stitches > MOST_STITCHES) {
            throw new IllegalArgumentException("stitches are not 1 to 60");
        }
    }

    private Piece pieceAt(int piece) {
        if (piece < 0 || piece >= told.pieces || piece >= MOST_PIECES) {
            throw new IndexOutOfBoundsException("there is no such piece");
        }
        return pieces[piece];
    }

    private Piece pieceWithRow(int piece, int row) {
        Piece asked = pieceAt(piece);
        requireWithin(row, asked.rowsWithCastOn());
        return asked;
    }

    private void tellPieces() {
        for (int i = 0; i < told.pieces && i < MOST_PIECES; i++) {
            pieces[i].tell(told, i);
        }
    }

    /** A bit for each piece that is knit with error 0, the lowest one for piece 0. */
    private int donePieces() {
        int done = 0;
        for (int i = 0; i < told.pieces && i < MOST_PIECES; i++) {
            if (pieces[i].error == 0) {
                done |= 1 << i;
            }
        }
        return done;
    }

    private int counted(int what) {
        switch (what) {
            case 0:
                return told.charts;
            case 1:
                return told.pieces;
            case 2:
                return Integer.bitCount(donePieces());
            case 3:
                return summed(Piece.NUMBER_OF_ROWS);
            case 4:
                return summed(Piece.NUMBER_OF_YARN);
            case 5:
                return summed(Piece.NUMBER_OF_HOLES);
            default:
                return tape.length;
        }
    }

    private int summed(int what) {
        int sum = 0;
        for (int i = 0; i < told.pieces && i < MOST_PIECES; i++) {
            sum += pieces[i].number(what);
        }
        return sum;
    }

    private static boolean isStitch(Kind kind) {
        switch (kind) {
            case KNIT:
            case PURL:
            case SLIP:
            case OVER:
            case TOG:
            case CABLE:
            case REP:
                return true;
            default:
                return false;
        }
    }

    /** The bytes that were fed and not yet read. */
    private static final class Tape {
        private static final int MOST_BYTES = 2000;
        private static final int BYTES_OF_FEED = 20;

        private final byte[] bytes = new byte[MOST_BYTES];
        private int length;

        boolean hasRoom() {
            return length + BYTES_OF_FEED <= MOST_BYTES;
        }

        void append(int number) {
            for (int shift = 24; shift >= 0; shift -= 8) {
                if (length >= 0 && length < MOST_BYTES) {
                    bytes[length] = (byte) (number >>> shift);
                    length++;
                }
            }
        }

        /** The byte, 0 to 255; -1 where there is none. */
        int byteAt(int at) {
            return at >= 0 && at < length && at < MOST_BYTES ? bytes[at] & 255 : -1;
        }

        boolean isBlank(int at) {
            int sign = byteAt(at);
            return sign == 32 || sign == 10;
        }

        boolean isLetter(int at) {
            int sign = byteAt(at);
            return sign >= 'a' && sign <= 'z';
        }

        boolean isDigit(int at) {
            int sign = byteAt(at);
            return sign >= '0' && sign <= '9';
        }

        boolean holdsAt(String text, int at) {
            for (int i = 0; i < text.length(); i++) {
                if (byteAt(at + i) != text.charAt(i)) {
                    return false;
                }
            }
            return true;
        }
    }

    /** What a token is; keywords and symbols with their text. */
    private enum Kind {
        CHART("chart"), ROW("row"), KNIT("knit"), PURL("purl"), SLIP("slip"), OVER("over"),
        TOG("tog"), CABLE("cable"), FRONT("front"), BACK("back"), REP("rep"), REST("rest"),
        PIECE("piece"), CAST("cast"), GAUGE("gauge"), BY("by"), WORK("work"), TIMES("times"),
        WHEN("when"), STITCHES("stitches"), ROWS("rows"), YARN("yarn"), HOLES("holes"),
        DONE("done"), NOT("not"), AND("and"), OR("or"), MIN("min"), MAX("max"),
        LEFT_ROUND("("), RIGHT_ROUND(")"), LEFT_SQUARE("["), RIGHT_SQUARE("]"),
        SEMICOLON(";"), COMMA(","), PLUS("+"), MINUS("-"), STAR("*"), SLASH("/"),
        LESS("<"), GREATER(">"), EQUAL("="), AT_MOST("<="), AT_LEAST(">="),
        NAME(""), NUMBER(""), END(""), WRONG("");

        private final String text;

        Kind(String text) {
            this.text = text;
        }
    }

    /** The tokens of a tape, closed by one that is END or WRONG. */
    private static final class Tokens {
        private static final int MOST_TOKENS = 400;
        private static final int MOST_LETTERS = 10;
        private static final int MOST_DIGITS = 6;

        private final Kind[] kinds = new Kind[MOST_TOKENS + 1];
        /** A number's value, a looked up name's index, or where the ] of a rep's [ is. */
        private final int[] values = new int[MOST_TOKENS + 1];
        private final long[] names = new long[MOST_TOKENS + 1];
        private final int[] starts = new int[MOST_TOKENS + 1];
        private int length;

        Kind kindAt(int at) {
            if (at < 0 || at >= length || at > MOST_TOKENS) {
                return Kind.END;
            }
            Kind kind = kinds[at];
            return kind == null ? Kind.END : kind;
        }

        int valueAt(int at) {
            return at >= 0 && at <= MOST_TOKENS ? values[at] : 0;
        }

        void setValue(int at, int value) {
            if (at >= 0 && at <= MOST_TOKENS) {
                values[at] = value;
            }
        }

        long nameAt(int at) {
            return at >= 0 && at <= MOST_TOKENS ? names[at] : 0L;
        }

        int startAt(int at) {
            return at >= 0 && at <= MOST_TOKENS ? starts[at] : 0;
        }

        void read(Tape tape) {
            length = 0;
            int at = behindBlanks(tape, 0);
            while (at < tape.length && length < MOST_TOKENS) {
                int behind = readToken(tape, at);
                if (behind <= at) {
                    break;
                }
                at = behindBlanks(tape, behind);
            }
            add(at < tape.length ? Kind.WRONG : Kind.END, at, 0, 0L);
        }

        private static int behindBlanks(Tape tape, int from) {
            int at = from;
            while (at < tape.length && tape.isBlank(at)) {
                at++;
            }
            return at;
        }

        private void add(Kind kind, int start, int value, long name) {
            if (length >= 0 && length <= MOST_TOKENS) {
                kinds[length] = kind;
                starts[length] = start;
                values[length] = value;
                names[length] = name;
                length++;
            }
        }

        /** Returns where the token ends; the same place, if none begins there. */
        private int readToken(Tape tape, int at) {
            if (tape.isLetter(at)) {
                return readWord(tape, at);
            }
            if (tape.isDigit(at)) {
                return readNumber(tape, at);
            }
            return readSymbol(tape, at);
        }

        private int readWord(Tape tape, int start) {
            int at = start;
            long name = 0L;
            while (at < start + MOST_LETTERS && (tape.isLetter(at) || tape.isDigit(at))) {
                name = name * 37L + signOfName(tape, at);
                at++;
            }
            if (tape.isLetter(at) || tape.isDigit(at)) {
                return start;
            }
            add(wordKind(tape, start, at - start), start, 0, name);
            return at;
        }

        /** 1 to 36, so that two names are the same if their numbers to the base of 37 are. */
        private static int signOfName(Tape tape, int at) {
            int sign = tape.byteAt(at);
            return tape.isLetter(at) ? sign - 'a' + 1 : sign - '0' + 27;
        }

        private static Kind wordKind(Tape tape, int start, int length) {
            for (Kind kind : KINDS) {
                if (kind.text.length() == length && tape.holdsAt(kind.text, start)) {
                    return kind;
                }
            }
            return Kind.NAME;
        }

        private int readNumber(Tape tape, int start) {
            int at = start;
            int value = 0;
            while (at < start + MOST_DIGITS && tape.isDigit(at)) {
                value = value * 10 + tape.byteAt(at) - '0';
                at++;
            }
            if (tape.isDigit(at)) {
                return start;
            }
            add(Kind.NUMBER, start, value, 0L);
            return at;
        }

        private int readSymbol(Tape tape, int start) {
            Kind longest = Kind.WRONG;
            for (Kind kind : KINDS) {
                if (kind.text.length() > longest.text.length()
                        && tape.holdsAt(kind.text, start)) {
                    longest = kind;
                }
            }
            if (longest == Kind.WRONG) {
                return start;
            }
            add(longest, start, 0, 0L);
            return start + longest.text.length();
        }

        /** How often a knit, purl or slip without a rest is worked. */
        int timesOfPlain(int at) {
            return kindAt(at + 1) == Kind.NUMBER ? valueAt(at + 1) : 1;
        }

        int behindStitch(int at) {
            switch (kindAt(at)) {
                case CABLE:
                    return at + 4;
                case REP:
                    return valueAt(at + 2) + 1;
                case KNIT:
                case PURL:
                case SLIP:
                    Kind next = kindAt(at + 1);
                    return next == Kind.NUMBER || next == Kind.REST ? at + 2 : at + 1;
                default:
                    return at + 1;
            }
        }

        boolean rowHasRest(int first) {
            for (int at = first; at < length; at++) {
                Kind kind = kindAt(at);
                if (kind == Kind.ROW || kind == Kind.SEMICOLON) {
                    return false;
                }
                if (kind == Kind.REST) {
                    return true;
                }
            }
            return false;
        }

        /** How many stitches are taken, or given, from a stitch on to the end of its list. */
        private int measureList(int first, boolean gives, int depth) {
            if (depth > MOST_DEPTH) {
                return 0;
            }
            int sum = 0;
            int at = first;
            for (int turn = 0; turn < MOST_TOKENS && isStitch(kindAt(at)); turn++) {
                sum = Math.min(MOST_TOLD, sum + measureStitch(at, gives, depth));
                at = behindStitch(at);
            }
            return sum;
        }

        private int measureStitch(int at, boolean gives, int depth) {
            switch (kindAt(at)) {
                case OVER:
                    return gives ? 1 : 0;
                case TOG:
                    return gives ? 1 : 2;
                case CABLE:
                    return valueAt(at + 1) + valueAt(at + 3);
                case REP:
                    return valueAt(at + 1) * measureList(at + 3, gives, depth + 1);
                default:
                    return timesOfPlain(at);
            }
        }
    }

    /**
     * Reads tokens by the grammar. Sums and tests are reckoned as they are read, so that their
     * grammar stands in one place: teach reads them for their form, and knit for their value.
     */
    private static final class Reader {
        private final Tokens tokens = new Tokens();
        private int at;
        /** The kind of the token that is next; WRONG from the first one on that is not due. */
        private Kind now = Kind.END;
        /** The first token that is not due; -1 if there is none. */
        private int wrongAt = -1;
        private int stitches;
        private int rows;
        private int yarn;
        private int holes;
        private int done;

        private void begin(int first) {
            at = first;
            now = tokens.kindAt(first);
            wrongAt = -1;
        }

        void readAll() {
            begin(0);
            for (int turn = 0; turn < Tokens.MOST_TOKENS && now != Kind.END; turn++) {
                if (wrongAt >= 0) {
                    return;
                }
                if (accept(Kind.CHART)) {
                    readChart();
                } else {
                    readPiece();
                }
                expect(Kind.SEMICOLON);
            }
        }

        /** How often a work's chart is worked, as the piece stands. */
        int timesOfWork(int workAt, Piece piece, int donePieces) {
            stitches = piece.stitchesIn(piece.rows);
            rows = piece.rows;
            yarn = piece.yarn;
            holes = piece.holes;
            done = donePieces;
            begin(workAt + 2);
            return readTimesAndTest();
        }

        private boolean accept(Kind wanted) {
            if (now != wanted) {
                return false;
            }
            at++;
            now = tokens.kindAt(at);
            return true;
        }

        private void expect(Kind wanted) {
            if (now == wanted) {
                at++;
                now = tokens.kindAt(at);
            } else {
                refuse();
            }
        }

        /** Accepts a token behind which the depth is greater. */
        private boolean enter(Kind wanted, int depth) {
            if (now != wanted) {
                return false;
            }
            if (depth >= MOST_DEPTH) {
                refuse();
                return false;
            }
            at++;
            now = tokens.kindAt(at);
            return true;
        }

        private void refuse() {
            if (wrongAt < 0) {
                wrongAt = at;
                now = Kind.WRONG;
            }
        }

        private void readChart() {
            expect(Kind.NAME);
            expect(Kind.ROW);
            readStitches(0);
            for (int turn = 0; turn < Tokens.MOST_TOKENS && accept(Kind.ROW); turn++) {
                readStitches(0);
            }
        }

        private void readStitches(int depth) {
            readStitch(depth);
            for (int turn = 0; turn < Tokens.MOST_TOKENS && isStitch(now); turn++) {
                readStitch(depth);
            }
        }

        private void readStitch(int depth) {
            if (accept(Kind.CABLE)) {
                readCable();
            } else if (accept(Kind.REP)) {
                readRep(depth);
            } else if (isStitch(now)) {
                boolean bare = now == Kind.OVER || now == Kind.TOG;
                expect(now);
                if (!bare && !accept(Kind.REST)) {
                    accept(Kind.NUMBER);
                }
            } else {
                refuse();
            }
        }

        private void readCable() {
            expect(Kind.NUMBER);
            if (!accept(Kind.FRONT)) {
                expect(Kind.BACK);
            }
            expect(Kind.NUMBER);
        }

        private void readRep(int depth) {
            if (!accept(Kind.REST)) {
                expect(Kind.NUMBER);
            }
            int left = at;
            if (!enter(Kind.LEFT_SQUARE, depth)) {
                refuse();
                return;
            }
            readStitches(depth + 1);
            tokens.setValue(left, at);
            expect(Kind.RIGHT_SQUARE);
        }

        private void readPiece() {
            expect(Kind.PIECE);
            expect(Kind.NAME);
            expect(Kind.CAST);
            expect(Kind.NUMBER);
            expect(Kind.GAUGE);
            expect(Kind.NUMBER);
            expect(Kind.BY);
            expect(Kind.NUMBER);
            for (int turn = 0; turn < Tokens.MOST_TOKENS && accept(Kind.WORK); turn++) {
                expect(Kind.NAME);
                readTimesAndTest();
            }
        }

        private int readTimesAndTest() {
            int times = 1;
            if (accept(Kind.TIMES)) {
                times = Math.max(0, Math.min(MOST_TIMES, readSum(0)));
            }
            if (accept(Kind.WHEN) && !readTest(0)) {
                times = 0;
            }
            return times;
        }

        private boolean readTest(int depth) {
            boolean holds = readBoth(depth);
            for (int turn = 0; turn < Tokens.MOST_TOKENS && accept(Kind.OR); turn++) {
                boolean right = readBoth(depth);
                holds = holds || right;
            }
            return holds;
        }

        private boolean readBoth(int depth) {
            boolean holds = readSingle(depth);
            for (int turn = 0; turn < Tokens.MOST_TOKENS && accept(Kind.AND); turn++) {
                boolean right = readSingle(depth);
                holds = holds && right;
            }
            return holds;
        }

        private boolean readSingle(int depth) {
            if (enter(Kind.NOT, depth)) {
                return !readSingle(depth + 1);
            }
            if (enter(Kind.LEFT_SQUARE, depth)) {
                boolean holds = readTest(depth + 1);
                expect(Kind.RIGHT_SQUARE);
                return holds;
            }
            if (accept(Kind.DONE)) {
                int piece = tokens.valueAt(at);
                expect(Kind.NAME);
                return (done >> piece & 1) != 0;
            }
            int left = readSum(depth);
            if (accept(Kind.LESS)) {
                return left < readSum(depth);
            }
            if (accept(Kind.GREATER)) {
                return left > readSum(depth);
            }
            if (accept(Kind.EQUAL)) {
                return left == readSum(depth);
            }
            if (accept(Kind.AT_MOST)) {
                return left <= readSum(depth);
            }
            expect(Kind.AT_LEAST);
            return left >= readSum(depth);
        }

        private int readSum(int depth) {
            int sum = readProduct(depth);
            for (int turn = 0; turn < Tokens.MOST_TOKENS; turn++) {
                if (accept(Kind.PLUS)) {
                    sum += readProduct(depth);
                } else if (accept(Kind.MINUS)) {
                    sum -= readProduct(depth);
                } else {
                    return sum;
                }
            }
            return sum;
        }

        private int readProduct(int depth) {
            int product = readValue(depth);
            for (int turn = 0; turn < Tokens.MOST_TOKENS; turn++) {
                if (accept(Kind.STAR)) {
                    product *= readValue(depth);
                } else if (accept(Kind.SLASH)) {
                    int divisor = readValue(depth);
                    product = divisor == 0 ? 0 : product / divisor;
                } else {
                    return product;
                }
            }
            return product;
        }

        private int readValue(int depth) {
            if (enter(Kind.MINUS, depth)) {
                return -readValue(depth + 1);
            }
            if (enter(Kind.LEFT_ROUND, depth)) {
                int value = readSum(depth + 1);
                expect(Kind.RIGHT_ROUND);
                return value;
            }
            if (accept(Kind.MIN)) {
                return readExtreme(true, depth);
            }
            if (accept(Kind.MAX)) {
                return readExtreme(false, depth);
            }
            if (accept(Kind.STITCHES)) {
                return stitches;
            }
            if (accept(Kind.ROWS)) {
                return rows;
            }
            if (accept(Kind.YARN)) {
                return yarn;
            }
            if (accept(Kind.HOLES)) {
                return holes;
            }
            int number = tokens.valueAt(at);
            expect(Kind.NUMBER);
            return number;
        }

        private int readExtreme(boolean least, int depth) {
            if (!enter(Kind.LEFT_ROUND, depth)) {
                refuse();
                return 0;
            }
            int a = readSum(depth + 1);
            expect(Kind.COMMA);
            int b = readSum(depth + 1);
            expect(Kind.RIGHT_ROUND);
            return least ? Math.min(a, b) : Math.max(a, b);
        }
    }

    /** The charts and pieces that a tape tells: its tokens, and where among them each is. */
    private static final class Pattern {
        private final Reader reader = new Reader();
        private final Tokens tokens = reader.tokens;
        private int charts;
        private final long[] chartNames = new long[MOST_CHARTS];
        private final int[] chartRows = new int[MOST_CHARTS];
        private final int[][] rowStarts = new int[MOST_CHARTS][MOST_ROWS_OF_CHART];
        private int pieces;
        private final long[] pieceNames = new long[MOST_PIECES];
        private final int[] pieceStarts = new int[MOST_PIECES];
        private final int[] pieceWorks = new int[MOST_PIECES];
        private final int[][] workStarts = new int[MOST_PIECES][MOST_WORKS];
        private int squares;
        private int faultAt = -1;

        /** Enters what was read. Returns 0, or the error; faultAt is its position, or -1. */
        int enterTokens() {
            charts = 0;
            pieces = 0;
            squares = 0;
            faultAt = -1;
            if (reader.wrongAt >= 0) {
                faultAt = tokens.startAt(reader.wrongAt);
                return NOT_DUE;
            }
            for (int at = 0; at < tokens.length; at++) {
                int error = enterToken(at);
                if (error != 0) {
                    faultAt = tokens.startAt(at);
                    return error;
                }
            }
            return 0;
        }

        private int enterToken(int at) {
            switch (tokens.kindAt(at)) {
                case NAME:
                    return enterName(at);
                case NUMBER:
                    return isInRange(at) ? 0 : OUT_OF_RANGE;
                case ROW:
                    return enterRow(at);
                case WORK:
                    return enterWork(at);
                case LEFT_SQUARE:
                    squares++;
                    return 0;
                case RIGHT_SQUARE:
                    squares--;
                    return 0;
                case REST:
                    return squares > 0 ? REST_IN_REP : 0;
                default:
                    return 0;
            }
        }

        private int enterName(int at) {
            long name = tokens.nameAt(at);
            switch (tokens.kindAt(at - 1)) {
                case CHART:
                    return enterChart(name);
                case PIECE:
                    return enterPiece(name, at);
                case WORK:
                    return lookUp(at, indexOf(name, chartNames, charts));
                default:
                    // the piece in whose tests the name stands is not told ahead
                    return lookUp(at, indexOf(name, pieceNames, pieces - 1));
            }
        }

        private static int indexOf(long name, long[] names, int length) {
            for (int i = 0; i < length && i < names.length; i++) {
                if (names[i] == name) {
                    return i;
                }
            }
            return -1;
        }

        private int lookUp(int at, int index) {
            tokens.setValue(at, index);
            return index < 0 ? NOT_TOLD : 0;
        }

        private int enterChart(long name) {
            if (indexOf(name, chartNames, charts) >= 0) {
                return NAMED_BEFORE;
            }
            if (charts < 0 || charts >= MOST_CHARTS) {
                return TOO_MANY;
            }
            chartNames[charts] = name;
            chartRows[charts] = 0;
            charts++;
            return 0;
        }

        private int enterPiece(long name, int at) {
            if (indexOf(name, pieceNames, pieces) >= 0) {
                return NAMED_BEFORE;
            }
            if (pieces < 0 || pieces >= MOST_PIECES) {
                return TOO_MANY;
            }
            pieceNames[pieces] = name;
            pieceStarts[pieces] = at;
            pieceWorks[pieces] = 0;
            pieces++;
            return 0;
        }

        private int enterRow(int at) {
            int row = rowsOf(charts - 1);
            if (!hasChart(charts - 1) || row >= MOST_ROWS_OF_CHART) {
                return TOO_MANY;
            }
            rowStarts[charts - 1][row] = at + 1;
            chartRows[charts - 1] = row + 1;
            return 0;
        }

        private int enterWork(int at) {
            int work = worksOf(pieces - 1);
            if (!hasPiece(pieces - 1) || work >= MOST_WORKS) {
                return TOO_MANY;
            }
            workStarts[pieces - 1][work] = at;
            pieceWorks[pieces - 1] = work + 1;
            return 0;
        }

        private boolean isInRange(int at) {
            int most = mostBehind(tokens.kindAt(at - 1));
            int value = tokens.valueAt(at);
            return most == 0 || value >= 1 && value <= most;
        }

        /** The greatest number behind such a token; 0 if it stands in a sum and has no bounds. */
        private static int mostBehind(Kind kind) {
            switch (kind) {
                case KNIT:
                case PURL:
                case SLIP:
                case CAST:
                    return 60;
                case CABLE:
                case FRONT:
                case BACK:
                    return 6;
                case REP:
                    return 30;
                case GAUGE:
                case BY:
                    return 40;
                default:
                    return 0;
            }
        }

        private boolean hasChart(int chart) {
            return chart >= 0 && chart < charts && chart < MOST_CHARTS;
        }

        private boolean hasPiece(int piece) {
            return piece >= 0 && piece < pieces && piece < MOST_PIECES;
        }

        int rowsOf(int chart) {
            return hasChart(chart) ? Math.max(0, chartRows[chart]) : 0;
        }

        int worksOf(int piece) {
            return hasPiece(piece) ? Math.max(0, pieceWorks[piece]) : 0;
        }

        /** The first stitch of a row; where no token is, if there is no such row. */
        int rowStart(int chart, int row) {
            boolean there = row >= 0 && row < rowsOf(chart) && row < MOST_ROWS_OF_CHART;
            return there && hasChart(chart) ? rowStarts[chart][row] : -1;
        }

        /** The token of a work, behind which the name of its chart stands; -1 if not there. */
        int workStart(int piece, int work) {
            boolean there = work >= 0 && work < worksOf(piece) && work < MOST_WORKS;
            return there && hasPiece(piece) ? workStarts[piece][work] : -1;
        }

        int measureRow(int chart, int row, boolean gives) {
            int first = rowStart(chart, row);
            return tokens.rowHasRest(first) ? -1 : tokens.measureList(first, gives, 0);
        }

        /** What is told behind a piece's name: cast 2, gauge 4, by 6 tokens on. */
        int numberOfPiece(int piece, int tokensOn) {
            return hasPiece(piece) ? tokens.valueAt(pieceStarts[piece] + tokensOn) : 0;
        }
    }

    /** A stitch in one number, as a piece has thousands of them. */
    private static final class Cell {
        private static final int CAST_ON = 0;
        private static final int KNIT = 1;
        private static final int PURLED = 2;
        private static final int SLIPPED = 3;
        private static final int HOLE = 4;
        private static final int TOGETHER = 5;
        private static final int IN_FRONT = 6;
        private static final int BEHIND = 7;

        /** over: how many stitches it crosses in front of; cable: from 1 on in its row, 0 none. */
        static int of(int sort, int strand, int cable, int over) {
            return strand << 12 | over << 9 | cable << 3 | sort;
        }

        static int sort(int cell) {
            return cell & 7;
        }

        static int cable(int cell) {
            return cell >> 3 & 63;
        }

        static int over(int cell) {
            return cell >> 9 & 7;
        }

        static int strand(int cell) {
            return cell >> 12;
        }
    }

    /** Works one row out of the row ahead of it. */
    private static final class Needles {
        private int[] from;
        private int[] to;
        private int many;
        private int taken;
        private int given;
        private int yarn;
        private int holes;
        private int cables;
        private int strands;
        private int error;

        Needles() {
            from = new int[0];
            to = from;
        }

        /** Sets what the next row is worked with: the row ahead of it, and the next strand. */
        void begin(int[] ahead, int stitches, int[] row, int nextStrand) {
            from = ahead;
            to = row;
            many = stitches;
            strands = nextStrand;
            taken = 0;
            given = 0;
            yarn = 0;
            holes = 0;
            cables = 0;
            error = 0;
        }

        /** Returns 0, or the error, 8 to 10, when all stitches of the row are worked. */
        int errorAtEnd() {
            return error == 0 && taken < many ? LEAVES_SOME : error;
        }

        private void workStitches(Tokens tokens, int first, int depth) {
            int at = first;
            for (int turn = 0; turn < Tokens.MOST_TOKENS && error == 0; turn++) {
                if (depth > MOST_DEPTH || !isStitch(tokens.kindAt(at))) {
                    return;
                }
                workStitch(tokens, at, depth);
                at = tokens.behindStitch(at);
            }
        }

        private void workStitch(Tokens tokens, int at, int depth) {
            switch (tokens.kindAt(at)) {
                case KNIT:
                    workPlain(Cell.KNIT, timesOfPlain(tokens, at));
                    break;
                case PURL:
                    workPlain(Cell.PURLED, timesOfPlain(tokens, at));
                    break;
                case SLIP:
                    workPlain(Cell.SLIPPED, timesOfPlain(tokens, at));
                    break;
                case OVER:
                    workOver();
                    break;
                case TOG:
                    workTog();
                    break;
                case CABLE:
                    boolean front = tokens.kindAt(at + 2) == Kind.FRONT;
                    workCable(tokens.valueAt(at + 1), tokens.valueAt(at + 3), front);
                    break;
                default:
                    workRep(tokens, at, depth);
                    break;
            }
        }

        private int timesOfPlain(Tokens tokens, int at) {
            return tokens.kindAt(at + 1) == Kind.REST ? many - taken : tokens.timesOfPlain(at);
        }

        private void workPlain(int sort, int times) {
            for (int turn = 0; turn < times && error == 0; turn++) {
                if (take(1)) {
                    give(sort, strandOf(taken - 1), 0, 0);
                    yarn += sort == Cell.SLIPPED ? 0 : 1;
                }
            }
        }

        private void workOver() {
            give(Cell.HOLE, strands, 0, 0);
            strands++;
            holes++;
            yarn++;
        }

        private void workTog() {
            if (take(2)) {
                give(Cell.TOGETHER, strandOf(taken - 2), 0, 0);
                yarn += 2;
            }
        }

        private void workCable(int held, int others, boolean front) {
            if (!take(held + others)) {
                return;
            }
            int first = taken - held - others;
            int sortOfHeld = front ? Cell.IN_FRONT : Cell.BEHIND;
            int sortOfOthers = front ? Cell.BEHIND : Cell.IN_FRONT;
            cables++;
            for (int i = 0; i < others; i++) {
                give(sortOfOthers, strandOf(first + held + i), cables, front ? 0 : held);
            }
            for (int i = 0; i < held; i++) {
                give(sortOfHeld, strandOf(first + i), cables, front ? others : 0);
            }
            yarn += 2 * (held + others);
        }

        private void workRep(Tokens tokens, int at, int depth) {
            int body = at + 3;
            int times = tokens.valueAt(at + 1);
            if (tokens.kindAt(at + 1) == Kind.REST) {
                int takes = tokens.measureList(body, false, depth + 1);
                times = takes <= 0 ? 0 : (many - taken) / takes;
            }
            for (int turn = 0; turn < times && error == 0; turn++) {
                workStitches(tokens, body, depth + 1);
            }
        }

        private boolean take(int stitches) {
            if (many - taken < stitches) {
                error = TAKES_TOO_MANY;
                return false;
            }
            taken += stitches;
            return true;
        }

        private void give(int sort, int strand, int cable, int over) {
            if (given < 0 || given >= MOST_STITCHES || given >= to.length) {
                error = GIVES_TOO_MANY;
                return;
            }
            to[given] = Cell.of(sort, strand, cable, over);
            given++;
        }

        private int strandOf(int column) {
            return column >= 0 && column < from.length ? Cell.strand(from[column]) : 0;
        }
    }

    /** What there is of a piece. */
    private static final class Piece {
        private static final int NUMBER_OF_ROWS = 1;
        private static final int NUMBER_OF_YARN = 3;
        private static final int NUMBER_OF_HOLES = 4;

        private int castOn;
        private int gaugeWide;
        private int gaugeHigh;
        /** Of the knitting: 0, 8 to 11, or UNKNIT. */
        private int error = UNKNIT;
        private int rows;
        private int yarn;
        private int holes;
        private int cables;
        private int strands;
        private final int[] rowLengths = new int[MOST_ROWS + 1];
        private final int[] rowCables = new int[MOST_ROWS + 1];
        private final int[][] cells = new int[MOST_ROWS + 1][MOST_STITCHES];

        void tell(Pattern pattern, int index) {
            castOn = pattern.numberOfPiece(index, 2);
            gaugeWide = pattern.numberOfPiece(index, 4);
            gaugeHigh = pattern.numberOfPiece(index, 6);
            unravel();
        }

        void unravel() {
            error = UNKNIT;
            rows = 0;
            yarn = 0;
            holes = 0;
            cables = 0;
            strands = 0;
            rowLengths[0] = 0;
        }

        void castStitches(int stitches) {
            unravel();
            error = 0;
            strands = stitches;
            rowLengths[0] = stitches;
            for (int i = 0; i < stitches && i < MOST_STITCHES; i++) {
                cells[0][i] = Cell.of(Cell.CAST_ON, i, 0, 0);
            }
        }

        /** Returns 0, or the error, 8 to 11. */
        int knitUp(Pattern pattern, int index, int stitches, int done, Needles needles) {
            castStitches(stitches);
            int works = pattern.worksOf(index);
            for (int work = 0; work < works && error == 0; work++) {
                int workAt = pattern.workStart(index, work);
                int times = pattern.reader.timesOfWork(workAt, this, done);
                int chart = pattern.tokens.valueAt(workAt + 1);
                for (int turn = 0; turn < times && error == 0; turn++) {
                    workChart(pattern, chart, needles);
                }
            }
            return error;
        }

        void workChart(Pattern pattern, int chart, Needles needles) {
            int most = pattern.rowsOf(chart);
            for (int row = 0; row < most && error == 0; row++) {
                workRow(pattern.tokens, pattern.rowStart(chart, row), needles);
            }
        }

        private void workRow(Tokens tokens, int first, Needles needles) {
            if (rows < 0 || rows >= MOST_ROWS) {
                error = ROW_TOO_MANY;
                return;
            }
            needles.begin(cells[rows], rowLengths[rows], cells[rows + 1], strands);
            needles.workStitches(tokens, first, 0);
            error = needles.errorAtEnd();
            // a row with an error is left on the needles, so that nothing of it counts
            if (error == 0) {
                rowLengths[rows + 1] = needles.given;
                rowCables[rows + 1] = needles.cables;
                rows++;
                strands = needles.strands;
                yarn += needles.yarn;
                holes += needles.holes;
                cables += needles.cables;
            }
        }

        int number(int what) {
            switch (what) {
                case 0:
                    return castOn;
                case NUMBER_OF_ROWS:
                    return rows;
                case 2:
                    return stitchesIn(rows);
                case NUMBER_OF_YARN:
                    return yarn;
                case NUMBER_OF_HOLES:
                    return holes;
                case 5:
                    return error;
                case 6:
                    return strands;
                default:
                    return cables;
            }
        }

        int rowsWithCastOn() {
            return error == UNKNIT ? 0 : rows + 1;
        }

        private boolean hasRow(int row) {
            return row >= 0 && row < rowsWithCastOn() && row <= MOST_ROWS;
        }

        int stitchesIn(int row) {
            return hasRow(row) ? rowLengths[row] : 0;
        }

        int cellAt(int row, int column) {
            boolean there = hasRow(row) && column >= 0 && column < MOST_STITCHES;
            return there ? cells[row][column] : 0;
        }

        int columnOf(int strand, int row) {
            int most = stitchesIn(row);
            for (int column = 0; column < most; column++) {
                if (Cell.strand(cellAt(row, column)) == strand) {
                    return column;
                }
            }
            return -1;
        }

        int crossingsOf(int a, int b) {
            int sum = 0;
            for (int row = 1; row <= rows; row++) {
                if (crossesIn(row, a, b)) {
                    sum++;
                }
            }
            return sum;
        }

        private boolean crossesIn(int row, int a, int b) {
            if (!hasRow(row) || rowCables[row] == 0) {
                return false;
            }
            int columnA = columnOf(a, row);
            int columnB = columnOf(b, row);
            if (columnA < 0 || columnB < 0) {
                return false;
            }
            int cellA = cellAt(row, columnA);
            int cellB = cellAt(row, columnB);
            return Cell.sort(cellA) == Cell.IN_FRONT && Cell.sort(cellB) == Cell.BEHIND
                    && Cell.cable(cellA) == Cell.cable(cellB);
        }

        int width(int row) {
            if (!hasRow(row) || gaugeWide == 0) {
                return 0;
            }
            int cablesOfRow = row == 0 ? 0 : rowCables[row];
            return (10 * stitchesIn(row) - 3 * cablesOfRow) * 10 / gaugeWide;
        }

        int height() {
            return gaugeHigh == 0 ? 0 : 100 * rows / gaugeHigh;
        }

        /** The tally is filled anew; it is handed in so that no call makes one. */
        int frontStrand(int[] tally) {
            for (int strand = 0; strand < strands && strand < tally.length; strand++) {
                tally[strand] = 0;
            }
            for (int row = 1; row <= rows; row++) {
                tallyRow(row, tally);
            }
            int front = -1;
            int most = 0;
            for (int strand = 0; strand < strands && strand < tally.length; strand++) {
                if (tally[strand] > most) {
                    most = tally[strand];
                    front = strand;
                }
            }
            return front;
        }

        private void tallyRow(int row, int[] tally) {
            int most = stitchesIn(row);
            for (int column = 0; column < most; column++) {
                int cell = cellAt(row, column);
                int strand = Cell.strand(cell);
                if (strand >= 0 && strand < tally.length) {
                    tally[strand] += Cell.over(cell);
                }
            }
        }

        long digestFrom(long start, int[] tally) {
            long sum = start;
            for (int what = 0; what < NUMBERS_OF_PIECE; what++) {
                sum = sum * 31L + number(what);
            }
            sum = sum * 31L + height();
            sum = sum * 31L + frontStrand(tally);
            int most = rowsWithCastOn();
            for (int row = 0; row < most; row++) {
                sum = sum * 31L + width(row);
                int stitches = stitchesIn(row);
                for (int column = 0; column < stitches; column++) {
                    int cell = cellAt(row, column);
                    sum = sum * 31L + Cell.sort(cell);
                    sum = sum * 31L + Cell.strand(cell);
                }
            }
            return sum;
        }
    }
}
