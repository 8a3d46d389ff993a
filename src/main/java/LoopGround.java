/** Lines of closed loops on a ground of three-edged pieces: least crossings, twists, words of twists. */
public final class LoopGround {
    public static final int NONE = -1;
    public static final int GAP = -1000000;

    // Most calls have a second way to refuse: SPENT, STUCK, too long, not TRUE.
    private static final int REFUSED = -2;
    private static final int TAPE_MOST = 1600;
    private static final int PIECES_MOST = 12;
    private static final int SLOTS_MOST = 36;
    private static final int EDGES_MOST = 18;
    private static final int LINES_MOST = 8;
    private static final int WORDS_MOST = 6;
    private static final int TWISTS_MOST = 8;
    private static final int BOXES = 3;
    private static final int TIMES_MOST = 99;
    private static final int ORDER_MOST = 40;
    private static final int STRETCH_MOST = 20;

    private final byte[] tape = new byte[TAPE_MOST];
    private final Reader reader = new Reader();
    private final Tracer tracer = new Tracer();
    private final Mover mover = new Mover();
    private final Counter counter = new Counter();
    private final Drawing drawing = new Drawing();
    private final Acts acts = new Acts();
    private final Table noted = new Table();
    private final long[][] boxes = new long[BOXES][EDGES_MOST];
    private final boolean[] boxFull = new boolean[BOXES];
    private final long[][] images = new long[LINES_MOST][EDGES_MOST];
    private final long[] work = new long[EDGES_MOST];
    private final long[] row = new long[EDGES_MOST];
    private Told told = new Told();
    private Told spare = new Told();
    private int length;
    private int faultKind;
    private int faultPlace = NONE;
    private boolean rowLies;

    public LoopGround() {
    }

    public int feed(int a, int b, int c, int d, int e) {
        if (length + 20 > TAPE_MOST) {
            return NONE;
        }
        putBytes(a);
        putBytes(b);
        putBytes(c);
        putBytes(d);
        putBytes(e);
        return length;
    }

    private void putBytes(int four) {
        for (int shift = 24; shift >= 0; shift -= 8) {
            if (length >= 0 && length < tape.length) {
                tape[length] = (byte) (four >> shift);
                length++;
            }
        }
    }

    public int end(int n) {
        if (n < 0 || n > length) {
            return NONE;
        }
        length = n;
        return n;
    }

    public int ground() {
        boolean right = reader.readGround(tape, length, spare);
        length = 0;
        faultKind = reader.faultKind;
        faultPlace = reader.faultPlace;
        if (!right) {
            return NONE;
        }
        Told before = told;
        told = spare;
        spare = before;
        mover.settle(told, tracer);
        acts.clearTo(null);
        for (int box = 0; box < BOXES; box++) {
            boxFull[box] = false;
        }
        noted.forget();
        rowLies = false;
        return told.lines;
    }

    public int fault(int what) {
        if (what == 0) {
            return faultKind;
        }
        return what == 1 ? faultPlace : NONE;
    }

    public int point(int piece, int corner) {
        if (piece < 0 || piece >= told.pieces || corner < 0 || corner > 2) {
            return NONE;
        }
        return told.pointAt[3 * piece + corner];
    }

    public long number(int line, int edge) {
        long[] numbers = numbersOf(line);
        if (numbers == null || !isEdge(edge)) {
            return REFUSED;
        }
        return numbers[edge];
    }

    public int loops(int line, int what) {
        long[] numbers = numbersOf(line);
        if (numbers == null || what < 0 || what > 2) {
            return NONE;
        }
        if (!tracer.load(told, numbers)) {
            return REFUSED;
        }
        tracer.countLoops();
        if (what == 0) {
            return tracer.loopCount;
        }
        if (what == 1) {
            return tracer.ringCount;
        }
        return tracer.isSingle() ? 1 : 0;
    }

    public int traced(int line, int i) {
        long[] numbers = numbersOf(line);
        if (numbers == null || i < 0) {
            return NONE;
        }
        if (!tracer.load(told, numbers)) {
            return REFUSED;
        }
        return tracer.edgeAt(i);
    }

    public int flips(int line) {
        Road road = mover.roadOf(line);
        if (road == null || road.kind == Road.NOT_SINGLE) {
            return NONE;
        }
        return road.kind == Road.STUCK ? REFUSED : road.count;
    }

    public int flip(int line, int i) {
        Road road = mover.roadOf(line);
        if (road == null || road.kind != Road.FAIR || i < 0 || i >= road.count) {
            return NONE;
        }
        return road.edgeFlipped(i);
    }

    public long cross(int line, int with) {
        long[] numbers = numbersOf(line);
        if (numbers == null || !mover.isFairLine(with)) {
            return NONE;
        }
        copyRow(numbers, work);
        return mover.leastCrossings(work, with);
    }

    public int across(int a, int b) {
        Road first = mover.roadOf(a);
        Road second = mover.roadOf(b);
        if (first == null || second == null || first.kind == Road.NOT_SINGLE || second.kind == Road.NOT_SINGLE) {
            return GAP;
        }
        return tracer.turns(told, told.rows[a], told.rows[b]);
    }

    public int kept(int word) {
        if (!mover.isFairWord(word)) {
            return NONE;
        }
        int bits = 0;
        for (int line = 0; line < told.lines; line++) {
            if (leavesAsItIs(word, told.rows[line])) {
                bits |= 1 << line;
            }
        }
        return bits;
    }

    public int alike(int a, int b) {
        if (!mover.isFairWord(a) || !mover.isFairWord(b)) {
            return NONE;
        }
        for (int line = 0; line < told.lines; line++) {
            copyRow(told.rows[line], work);
            copyRow(told.rows[line], images[line]);
            boolean left = mover.goThrough(work, a, null);
            boolean right = mover.goThrough(images[line], b, null);
            if (left != right || left && !sameRow(work, images[line])) {
                return 0;
            }
        }
        return 1;
    }

    public int order(int word) {
        if (!mover.isFairWord(word)) {
            return NONE;
        }
        for (int line = 0; line < told.lines; line++) {
            copyRow(told.rows[line], images[line]);
        }
        for (int times = 1; times <= ORDER_MOST; times++) {
            boolean all = true;
            for (int line = 0; line < told.lines; line++) {
                if (!mover.goThrough(images[line], word, null)) {
                    return 0;
                }
                all = all && sameRow(images[line], told.rows[line]);
            }
            if (all) {
                return times;
            }
        }
        return 0;
    }

    public long stretch(int word, int line, int n) {
        if (!canStretch(word, line) || n < 0 || n > STRETCH_MOST) {
            return NONE;
        }
        copyRow(told.rows[line], work);
        for (int times = 0; times < n; times++) {
            if (!mover.goThrough(work, word, null)) {
                return REFUSED;
            }
        }
        long before = total(work);
        if (!mover.goThrough(work, word, null)) {
            return REFUSED;
        }
        return before > 0 ? total(work) * 1000 / before : NONE;
    }

    public int table(int word, int line, int row, int column) {
        if (!canStretch(word, line) || !isEdge(row) || !isEdge(column)) {
            return NONE;
        }
        return noteTable(word, line) ? noted.at(row, column) : REFUSED;
    }

    public int polynomial(int word, int line, int i) {
        if (!canStretch(word, line) || i < 0 || i > told.edges) {
            return NONE;
        }
        return noteTable(word, line) ? noted.coefficient(i) : REFUSED;
    }

    public int least(int word, int m) {
        rowLies = false;
        if (!mover.isFairWord(word) || m < 1 || m > 3) {
            return NONE;
        }
        if (!counter.begin(told, m)) {
            return REFUSED;
        }
        for (int k = 0; k < Counter.ROWS_MOST && counter.nextFit(); k++) {
            if (hasLoop(counter.numbers) && leavesAsItIs(word, counter.numbers)) {
                copyRow(counter.numbers, row);
                rowLies = true;
                return (int) total(row);
            }
        }
        return NONE;
    }

    public int lies(int edge) {
        return rowLies && isEdge(edge) ? (int) row[edge] : NONE;
    }

    public long lay(int line) {
        if (!isLine(line)) {
            return NONE;
        }
        acts.keep(told.rows[line]);
        return total(acts.now());
    }

    public long twist(int line, int times) {
        if (!mover.isFairLine(line) || times == 0 || times < -TIMES_MOST || times > TIMES_MOST) {
            return NONE;
        }
        copyRow(acts.now(), work);
        return act(mover.twistAlong(work, line, times, null));
    }

    public long go(int word) {
        if (!mover.isFairWord(word)) {
            return NONE;
        }
        copyRow(acts.now(), work);
        return act(mover.goThrough(work, word, null));
    }

    private long act(boolean right) {
        if (!right) {
            return REFUSED;
        }
        acts.keep(work);
        return total(work);
    }

    public boolean undo() {
        return acts.stepBack();
    }

    public boolean redo() {
        return acts.stepOn();
    }

    public int sketch() {
        rowLies = false;
        boolean right = drawing.walk(told, tape, length);
        length = 0;
        if (!right) {
            return NONE;
        }
        drawing.leaveOut(told);
        if (!drawing.isTrue(told, tracer)) {
            return REFUSED;
        }
        copyRow(drawing.numbers, row);
        rowLies = true;
        return drawing.left();
    }

    public long image(int box) {
        if (box < 0 || box >= BOXES) {
            return NONE;
        }
        copyRow(acts.now(), boxes[box]);
        boxFull[box] = true;
        return total(boxes[box]);
    }

    public long back(int box) {
        if (box < 0 || box >= BOXES || !boxFull[box]) {
            return NONE;
        }
        acts.clearTo(boxes[box]);
        return total(boxes[box]);
    }

    public int about(int what) {
        switch (what) {
            case 0: return told.pieces;
            case 1: return told.edges;
            case 2: return told.points;
            case 3: return (2 - told.points + told.edges - told.pieces) / 2;
            case 4: return told.lines;
            case 5: return told.words;
            case 6: return acts.done;
            case 7: return acts.ahead;
            case 8: return length;
            default: return NONE;
        }
    }

    private boolean isEdge(int edge) {
        return edge >= 0 && edge < told.edges;
    }

    private boolean isLine(int line) {
        return line >= 0 && line < told.lines;
    }

    /** The numbers of a told LINE, or of THE LINE; null if there is none such. */
    private long[] numbersOf(int line) {
        if (line == NONE) {
            return acts.now();
        }
        return isLine(line) ? told.rows[line] : null;
    }

    private boolean leavesAsItIs(int word, long[] numbers) {
        copyRow(numbers, work);
        return mover.goThrough(work, word, null) && sameRow(work, numbers);
    }

    /** Whether numbers that FIT have a LOOP that is no RING. */
    private boolean hasLoop(long[] numbers) {
        if (!tracer.load(told, numbers)) {
            return false;
        }
        tracer.countLoops();
        return tracer.loopCount > tracer.ringCount;
    }

    private boolean canStretch(int word, int line) {
        return mover.isFairWord(word) && isLine(line) && total(told.rows[line]) > 0;
    }

    // The same TABLE is mostly asked for number by number, so the latest one is held till the GROUND is another.
    private boolean noteTable(int word, int line) {
        if (!noted.isOf(word, line)) {
            noted.begin(told.edges, word, line);
            copyRow(told.rows[line], work);
            noted.right = mover.goThrough(work, word, noted);
        }
        return noted.right;
    }

    private static void copyRow(long[] from, long[] to) {
        for (int edge = 0; edge < EDGES_MOST; edge++) {
            to[edge] = from[edge];
        }
    }

    private static boolean sameRow(long[] one, long[] other) {
        for (int edge = 0; edge < EDGES_MOST; edge++) {
            if (one[edge] != other[edge]) {
                return false;
            }
        }
        return true;
    }

    private static long total(long[] numbers) {
        long sum = 0;
        for (int edge = 0; edge < EDGES_MOST; edge++) {
            sum += numbers[edge];
        }
        return sum;
    }

    /** The slot behind one, round its PIECE: a slot is 3 times a PIECE's number and the place of an EDGE in it. */
    private static int behind(int slot) {
        return slot % 3 == 2 ? slot - 2 : slot + 1;
    }

    private static int ahead(int slot) {
        return slot % 3 == 0 ? slot + 2 : slot - 1;
    }

    /** A GROUND as it was told. Rows of numbers are 0 behind the last EDGE, so that rows can be gone through whole. */
    private static final class Told {
        int pieces;
        int edges;
        int points;
        int lines;
        int words;
        final int[] edgeAt = new int[SLOTS_MOST];
        final int[] otherSide = new int[SLOTS_MOST];
        final int[] pointAt = new int[SLOTS_MOST];
        final int[] timesTold = new int[EDGES_MOST];
        final int[] firstSide = new int[EDGES_MOST];
        final int[] secondSide = new int[EDGES_MOST];
        final long[][] rows = new long[LINES_MOST][EDGES_MOST];
        final long[] lineNames = new long[LINES_MOST];
        final long[] wordNames = new long[WORDS_MOST];
        final int[] wordLength = new int[WORDS_MOST];
        final int[][] wordLines = new int[WORDS_MOST][TWISTS_MOST];
        final int[][] wordTimes = new int[WORDS_MOST][TWISTS_MOST];

        void clear() {
            pieces = 0;
            edges = 0;
            points = 0;
            lines = 0;
            words = 0;
            for (int edge = 0; edge < EDGES_MOST; edge++) {
                timesTold[edge] = 0;
            }
            for (int line = 0; line < LINES_MOST; line++) {
                for (int edge = 0; edge < EDGES_MOST; edge++) {
                    rows[line][edge] = 0;
                }
            }
        }

        void tellEdge(int slot, int edge) {
            edgeAt[slot] = edge;
            if (timesTold[edge] == 0) {
                firstSide[edge] = slot;
            } else {
                secondSide[edge] = slot;
            }
            timesTold[edge]++;
        }

        /** Glues the PIECES; false if they are not WHOLE. */
        boolean glue() {
            if (pieces % 2 != 0) {
                return false;
            }
            int count = pieces / 2 * 3;
            // Twice as many SIDES as EDGES were told in all, so none is left for another EDGE.
            for (int edge = 0; edge < count; edge++) {
                if (timesTold[edge] != 2) {
                    return false;
                }
                otherSide[firstSide[edge]] = secondSide[edge];
                otherSide[secondSide[edge]] = firstSide[edge];
            }
            edges = count;
            if (!hangsTogether()) {
                return false;
            }
            numberPoints();
            return true;
        }

        private boolean hangsTogether() {
            int reached = 1;
            for (int round = 0; round < pieces; round++) {
                for (int slot = 0; slot < 3 * pieces; slot++) {
                    if ((reached >> (slot / 3) & 1) != 0) {
                        reached |= 1 << (otherSide[slot] / 3);
                    }
                }
            }
            return pieces == 0 || reached == (1 << pieces) - 1;
        }

        private void numberPoints() {
            int corners = 3 * pieces;
            for (int corner = 0; corner < corners; corner++) {
                pointAt[corner] = NONE;
            }
            for (int corner = 0; corner < corners; corner++) {
                if (pointAt[corner] == NONE) {
                    int at = corner;
                    for (int k = 0; k < corners && pointAt[at] == NONE; k++) {
                        pointAt[at] = points;
                        at = otherSide[behind(at)];
                    }
                    points++;
                }
            }
        }

        boolean fitsIn(int piece, long[] numbers) {
            long a = numbers[edgeAt[3 * piece]];
            long b = numbers[edgeAt[3 * piece + 1]];
            long c = numbers[edgeAt[3 * piece + 2]];
            return (a + b + c) % 2 == 0 && a <= b + c && b <= a + c && c <= a + b;
        }

        boolean fits(long[] numbers) {
            for (int piece = 0; piece < pieces; piece++) {
                if (!fitsIn(piece, numbers)) {
                    return false;
                }
            }
            return true;
        }

        int lastEdgeOf(int piece) {
            int last = 0;
            for (int slot = 3 * piece; slot < 3 * piece + 3; slot++) {
                last = Math.max(last, edgeAt[slot]);
            }
            return last;
        }

        int lineNamed(long name) {
            return placeOf(name, lineNames, lines);
        }

        int wordNamed(long name) {
            return placeOf(name, wordNames, words);
        }

        private static int placeOf(long name, long[] names, int count) {
            for (int i = 0; i < count; i++) {
                if (names[i] == name) {
                    return i;
                }
            }
            return NONE;
        }
    }

    /** Reads a text into a Told, TOKEN by TOKEN, up to its first FAULT. */
    private static final class Reader {
        private static final int END = 0;
        private static final int NAME = 1;
        private static final int NUMBER = 2;
        private static final int STOP = 3;
        private static final int MINUS = 4;
        private static final int BAD = 5;
        private static final int PIECE = 6;
        private static final int LINE = 7;
        private static final int OF = 8;
        private static final int WORD = 9;
        private static final int IS = 10;

        private static final int NO_TOKEN = 1;
        private static final int MISPLACED = 2;
        private static final int TOLD_ALREADY = 3;
        private static final int NO_NUMBER = 4;
        private static final int NO_LINE = 5;
        private static final int NOT_FITTING = 6;

        private static final int LETTERS_MOST = 8;
        private static final int DIGITS_MOST = 4;
        private static final int LINE_NUMBER_MOST = 99;
        private static final int WORD_TIMES_MOST = 9;

        // A word is held as one number, 5 bits a letter (a is 1).
        private static final long PIECE_LETTERS = (((16L * 32 + 9) * 32 + 5) * 32 + 3) * 32 + 5;
        private static final long LINE_LETTERS = ((12L * 32 + 9) * 32 + 14) * 32 + 5;
        private static final long OF_LETTERS = 15L * 32 + 6;
        private static final long WORD_LETTERS = ((23L * 32 + 15) * 32 + 18) * 32 + 4;
        private static final long IS_LETTERS = 9L * 32 + 19;

        int faultKind;
        int faultPlace;
        private byte[] text;
        private int length;
        private Told into;
        private boolean piecesClosed;
        private int at;
        private int kind;
        private int start;
        private int number;
        private long letters;

        boolean readGround(byte[] tape, int bytes, Told empty) {
            text = tape;
            length = Math.min(bytes, tape.length);
            into = empty;
            into.clear();
            faultKind = 0;
            faultPlace = NONE;
            piecesClosed = false;
            at = 0;
            readToken();
            for (int k = 0; k < TAPE_MOST && faultKind == 0 && kind != END; k++) {
                if (kind == PIECE) {
                    readPiece();
                } else if (kind != LINE && kind != WORD) {
                    refuseToken();
                } else if (!piecesClosed && !closePieces()) {
                    return false;
                } else if (kind == LINE) {
                    readLoops();
                } else {
                    readTwists();
                }
            }
            return faultKind == 0 && (piecesClosed || closePieces());
        }

        private void refuse(int fault, int place) {
            faultKind = fault;
            faultPlace = place;
        }

        private boolean refuseToken() {
            refuse(kind == BAD ? NO_TOKEN : MISPLACED, start);
            return false;
        }

        private boolean closePieces() {
            piecesClosed = true;
            if (!into.glue()) {
                refuse(NOT_FITTING, start);
                return false;
            }
            return true;
        }

        private void readPiece() {
            int piece = into.pieces;
            if (piecesClosed || piece >= PIECES_MOST) {
                refuseToken();
                return;
            }
            readToken();
            for (int i = 0; i < 3; i++) {
                if (!readEdge(3 * piece + i)) {
                    return;
                }
            }
            if (pass(STOP)) {
                into.pieces++;
            }
        }

        private boolean readEdge(int slot) {
            if (kind != NUMBER) {
                return refuseToken();
            }
            if (number >= EDGES_MOST) {
                refuse(NO_NUMBER, start);
                return false;
            }
            if (into.timesTold[number] >= 2) {
                refuse(TOLD_ALREADY, start);
                return false;
            }
            into.tellEdge(slot, number);
            readToken();
            return true;
        }

        private void readLoops() {
            int line = into.lines;
            if (line >= LINES_MOST) {
                refuseToken();
                return;
            }
            readToken();
            long name = letters;
            if (!passNewName(into.lineNamed(name)) || !pass(OF)) {
                return;
            }
            long[] row = into.rows[line];
            int count = 0;
            for (int k = 0; k <= EDGES_MOST && kind == NUMBER; k++) {
                if (count >= into.edges) {
                    refuseToken();
                    return;
                }
                if (number > LINE_NUMBER_MOST) {
                    refuse(NO_NUMBER, start);
                    return;
                }
                row[count] = number;
                count++;
                readToken();
            }
            if (kind != STOP || count == 0 || count < into.edges) {
                refuseToken();
                return;
            }
            if (!into.fits(row)) {
                refuse(NOT_FITTING, start);
                return;
            }
            into.lineNames[line] = name;
            into.lines++;
            readToken();
        }

        private void readTwists() {
            int word = into.words;
            if (word >= WORDS_MOST) {
                refuseToken();
                return;
            }
            readToken();
            long name = letters;
            if (!passNewName(into.wordNamed(name)) || !pass(IS)) {
                return;
            }
            int count = 0;
            for (int k = 0; k <= TWISTS_MOST && (count == 0 || kind != STOP); k++) {
                if (!readTwist(word, count)) {
                    return;
                }
                count++;
            }
            if (pass(STOP)) {
                into.wordNames[word] = name;
                into.wordLength[word] = count;
                into.words++;
            }
        }

        private boolean readTwist(int word, int place) {
            if (kind != NAME || place >= TWISTS_MOST) {
                return refuseToken();
            }
            int line = into.lineNamed(letters);
            if (line == NONE) {
                refuse(NO_LINE, start);
                return false;
            }
            readToken();
            int from = start;
            boolean minus = kind == MINUS;
            if (minus) {
                readToken();
            }
            if (kind != NUMBER) {
                return refuseToken();
            }
            if (number == 0 || number > WORD_TIMES_MOST) {
                refuse(NO_NUMBER, from);
                return false;
            }
            into.wordLines[word][place] = line;
            into.wordTimes[word][place] = minus ? -number : number;
            readToken();
            return true;
        }

        private boolean passNewName(int toldAs) {
            if (kind != NAME) {
                return refuseToken();
            }
            if (toldAs != NONE) {
                refuse(TOLD_ALREADY, start);
                return false;
            }
            readToken();
            return true;
        }

        private boolean pass(int wanted) {
            if (kind != wanted) {
                return refuseToken();
            }
            readToken();
            return true;
        }

        private int byteAt(int place) {
            return place >= 0 && place < length ? text[place] : 0;
        }

        private static boolean isLetter(int c) {
            return c >= 'a' && c <= 'z';
        }

        private static boolean isDigit(int c) {
            return c >= '0' && c <= '9';
        }

        private void readToken() {
            for (int k = 0; k < TAPE_MOST && (byteAt(at) == 32 || byteAt(at) == 10); k++) {
                at++;
            }
            start = at;
            int c = byteAt(at);
            if (at >= length) {
                kind = END;
            } else if (isLetter(c)) {
                readLetters();
            } else if (isDigit(c)) {
                readDigits();
            } else {
                at++;
                kind = c == ';' ? STOP : c == '-' ? MINUS : BAD;
            }
        }

        private void readLetters() {
            letters = 0;
            for (int k = 0; k < TAPE_MOST && isLetter(byteAt(at)); k++) {
                letters = letters * 32 + byteAt(at) - 'a' + 1;
                at++;
            }
            kind = at - start > LETTERS_MOST ? BAD : kindOfWord();
        }

        private int kindOfWord() {
            if (letters == PIECE_LETTERS) {
                return PIECE;
            }
            if (letters == LINE_LETTERS) {
                return LINE;
            }
            if (letters == OF_LETTERS) {
                return OF;
            }
            if (letters == WORD_LETTERS) {
                return WORD;
            }
            return letters == IS_LETTERS ? IS : NAME;
        }

        private void readDigits() {
            number = 0;
            for (int k = 0; k < TAPE_MOST && isDigit(byteAt(at)); k++) {
                number = number * 10 + byteAt(at) - '0';
                at++;
            }
            kind = at - start > DIGITS_MOST || isLetter(byteAt(at)) ? BAD : NUMBER;
        }
    }

    /** Follows the strands of a LINE over the EDGES and round the corners of a GROUND. */
    private static final class Tracer {
        private static final int STRANDS_MOST = 18000;

        int loopCount;
        int ringCount;
        // A bit a strand: so many booleans would be most of what an object takes.
        private final long[] passed = new long[STRANDS_MOST / 64 + 1];
        private final int[] firstStrand = new int[EDGES_MOST];
        private final int[] counts = new int[EDGES_MOST];
        private final int[] flows = new int[SLOTS_MOST];
        private final int[] flowsOfOther = new int[SLOTS_MOST];
        private Told told;
        private int strands;
        private int slot;
        private int strand;
        private int startSlot;
        private int startStrand;
        private boolean turnedOn;

        /** Takes a LINE that FITS; false if it has too many strands to be followed. */
        boolean load(Told ground, long[] numbers) {
            told = ground;
            strands = 0;
            long sum = total(numbers);
            if (sum > STRANDS_MOST) {
                return false;
            }
            for (int edge = 0; edge < EDGES_MOST; edge++) {
                counts[edge] = (int) numbers[edge];
                firstStrand[edge] = strands;
                strands += counts[edge];
            }
            return true;
        }

        private void begin(int fromSlot, int fromStrand) {
            slot = fromSlot;
            strand = fromStrand;
            startSlot = fromSlot;
            startStrand = fromStrand;
        }

        /** Stands at the first strand of the first EDGE that is crossed; false if none is. */
        private boolean beginFirst() {
            for (int edge = 0; edge < told.edges; edge++) {
                if (counts[edge] > 0) {
                    begin(told.firstSide[edge], 0);
                    return true;
                }
            }
            return false;
        }

        private boolean isBack() {
            return slot == startSlot && strand == startStrand;
        }

        private int countAt(int place) {
            return counts[told.edgeAt[place]];
        }

        // Strands of an EDGE are numbered from the corner ahead of it; its two SIDES run against one another.
        private void step() {
            int in = told.otherSide[slot];
            int here = countAt(in) - 1 - strand;
            int before = ahead(in);
            int next = behind(in);
            int roundBefore = (countAt(before) + countAt(in) - countAt(next)) / 2;
            turnedOn = here >= roundBefore;
            slot = turnedOn ? next : before;
            strand = (turnedOn ? countAt(in) : countAt(before)) - 1 - here;
        }

        private int strandNumber() {
            int edge = told.edgeAt[slot];
            int fromFirst = slot == told.firstSide[edge] ? strand : counts[edge] - 1 - strand;
            return firstStrand[edge] + fromFirst;
        }

        void countLoops() {
            loopCount = 0;
            ringCount = 0;
            for (int i = 0; i <= strands / 64; i++) {
                passed[i] = 0;
            }
            for (int edge = 0; edge < told.edges; edge++) {
                for (int i = 0; i < counts[edge]; i++) {
                    if (!isPassed(firstStrand[edge] + i)) {
                        begin(told.firstSide[edge], i);
                        loopCount++;
                        ringCount += closeLoop() ? 1 : 0;
                    }
                }
            }
        }

        private boolean isPassed(int number) {
            return (passed[number / 64] >> (number % 64) & 1) != 0;
        }

        /** Goes once round from the start; true if it always turns to one hand. */
        private boolean closeLoop() {
            boolean on = false;
            boolean off = false;
            for (int k = 0; k < strands; k++) {
                int number = strandNumber();
                passed[number / 64] |= 1L << (number % 64);
                step();
                on = on || turnedOn;
                off = off || !turnedOn;
                if (isBack()) {
                    break;
                }
            }
            return on != off;
        }

        boolean isSingle() {
            return loopCount == 1 && ringCount == 0;
        }

        int edgeAt(int i) {
            if (i < 0 || i >= strands || !beginFirst()) {
                return NONE;
            }
            for (int k = 0; k < i; k++) {
                step();
                if (isBack()) {
                    return NONE;
                }
            }
            return told.edgeAt[slot];
        }

        /** Puts the EDGES that the LINE crosses, as TRACED, into a row: how many. */
        int traceInto(int[] edges) {
            if (!beginFirst()) {
                return 0;
            }
            int count = 0;
            for (int k = 0; k < strands && count < edges.length; k++) {
                edges[count] = told.edgeAt[slot];
                count++;
                step();
                if (isBack()) {
                    break;
                }
            }
            return count;
        }

        int turns(Told ground, long[] one, long[] other) {
            if (!load(ground, one)) {
                return GAP;
            }
            flowInto(flows);
            if (!load(ground, other)) {
                return GAP;
            }
            flowInto(flowsOfOther);
            int sum = 0;
            for (int at = 0; at + 2 < 3 * ground.pieces; at += 3) {
                sum += flows[at] * flowsOfOther[at + 1] - flows[at + 1] * flowsOfOther[at];
            }
            return sum / 2;
        }

        private void flowInto(int[] out) {
            for (int i = 0; i < SLOTS_MOST; i++) {
                out[i] = 0;
            }
            if (!beginFirst()) {
                return;
            }
            for (int k = 0; k < strands; k++) {
                out[slot]++;
                out[told.otherSide[slot]]--;
                step();
                if (isBack()) {
                    return;
                }
            }
        }
    }

    /** How a told LINE gets SHORT: its FLIPS, and the EDGES round it then. */
    private static final class Road {
        static final int NOT_SINGLE = 0;
        static final int STUCK = 1;
        static final int FAIR = 2;
        // The numbers are 18 * 99 together at most, and each FLIP makes that less.
        static final int FLIPS_MOST = EDGES_MOST * 99;

        int kind;
        int count;
        int a;
        int b;
        int e;
        int f;
        // A FLIP is one number: e, x, y, z, w with 5 bits each, e lowest.
        final int[] flips = new int[FLIPS_MOST];

        int edgeFlipped(int i) {
            return flips[i] & 31;
        }
    }

    /** Makes a LINE SHORT on a copy of the PIECES and writes its Road. */
    private static final class Shortener {
        private final int[] edgeAt = new int[SLOTS_MOST];
        private final int[] lowSide = new int[EDGES_MOST];
        private final int[] highSide = new int[EDGES_MOST];
        private final long[] numbers = new long[EDGES_MOST];
        private int slots;
        private int edges;
        private int x;
        private int y;
        private int z;
        private int w;
        private long numberFlipped;

        void pave(Told told, int line, Tracer tracer, Road road) {
            road.count = 0;
            road.kind = Road.NOT_SINGLE;
            if (!tracer.load(told, told.rows[line])) {
                return;
            }
            tracer.countLoops();
            if (!tracer.isSingle()) {
                return;
            }
            slots = 3 * told.pieces;
            edges = told.edges;
            for (int i = 0; i < slots; i++) {
                edgeAt[i] = told.edgeAt[i];
            }
            copyRow(told.rows[line], numbers);
            findSides();
            shorten(road);
        }

        private void shorten(Road road) {
            for (int k = 0; k < Road.FLIPS_MOST && !isShort(); k++) {
                int edge = firstToFlip();
                if (edge == NONE) {
                    road.kind = Road.STUCK;
                    return;
                }
                road.flips[road.count] = edge | x << 5 | y << 10 | z << 15 | w << 20;
                road.count++;
                turnEdge(edge);
            }
            findNeighbours(road);
            road.kind = Road.FAIR;
        }

        private void findSides() {
            for (int edge = 0; edge < edges; edge++) {
                lowSide[edge] = NONE;
            }
            for (int slot = 0; slot < slots; slot++) {
                int edge = edgeAt[slot];
                if (lowSide[edge] == NONE) {
                    lowSide[edge] = slot;
                } else {
                    highSide[edge] = slot;
                }
            }
        }

        private boolean isShort() {
            int crossed = 0;
            for (int edge = 0; edge < edges; edge++) {
                if (numbers[edge] > 1) {
                    return false;
                }
                crossed += (int) numbers[edge];
            }
            return crossed == 2;
        }

        private int firstToFlip() {
            for (int edge = 0; edge < edges; edge++) {
                if (lowSide[edge] / 3 != highSide[edge] / 3) {
                    lookRound(edge);
                    if (numberFlipped < numbers[edge]) {
                        return edge;
                    }
                }
            }
            return NONE;
        }

        private void lookRound(int edge) {
            x = edgeAt[behind(lowSide[edge])];
            y = edgeAt[ahead(lowSide[edge])];
            z = edgeAt[behind(highSide[edge])];
            w = edgeAt[ahead(highSide[edge])];
            numberFlipped = Math.max(numbers[x] + numbers[z], numbers[y] + numbers[w]) - numbers[edge];
        }

        /** Flips the EDGE that was looked round last. */
        private void turnEdge(int edge) {
            numbers[edge] = numberFlipped;
            edgeAt[behind(lowSide[edge])] = y;
            edgeAt[ahead(lowSide[edge])] = z;
            edgeAt[behind(highSide[edge])] = w;
            edgeAt[ahead(highSide[edge])] = x;
            findSides();
        }

        private void findNeighbours(Road road) {
            boolean second = false;
            for (int slot = 0; slot < slots; slot++) {
                int f = edgeAt[behind(slot)];
                int e = edgeAt[ahead(slot)];
                if (numbers[edgeAt[slot]] == 0 && numbers[f] == 1 && numbers[e] == 1) {
                    if (second) {
                        road.b = edgeAt[slot];
                    } else {
                        road.a = edgeAt[slot];
                        road.f = f;
                        road.e = e;
                        second = true;
                    }
                }
            }
        }
    }

    /** Takes numbers through FLIPS, TWISTS and WORDS. */
    private static final class Mover {
        private static final long NUMBER_MOST = 100000000000000L;

        private final Shortener shortener = new Shortener();
        private final Road[] roads = new Road[LINES_MOST];
        private Told told;

        Mover() {
            for (int line = 0; line < LINES_MOST; line++) {
                roads[line] = new Road();
            }
        }

        void settle(Told ground, Tracer tracer) {
            told = ground;
            for (int line = 0; line < ground.lines; line++) {
                shortener.pave(ground, line, tracer, roads[line]);
            }
        }

        Road roadOf(int line) {
            return told != null && line >= 0 && line < told.lines ? roads[line] : null;
        }

        boolean isFairLine(int line) {
            Road road = roadOf(line);
            return road != null && road.kind == Road.FAIR;
        }

        boolean isFairWord(int word) {
            if (told == null || word < 0 || word >= told.words) {
                return false;
            }
            for (int i = 0; i < told.wordLength[word]; i++) {
                if (!isFairLine(told.wordLines[word][i])) {
                    return false;
                }
            }
            return true;
        }

        long leastCrossings(long[] numbers, int with) {
            Road road = roads[with];
            if (!passFlips(numbers, road, false, null)) {
                return REFUSED;
            }
            long e = numbers[road.e];
            long f = numbers[road.f];
            return Math.max(Math.abs(f - e), numbers[road.a] + numbers[road.b] - e - f);
        }

        /** False if SPENT: the numbers are of no use then. A TABLE, if there is one, goes along. */
        boolean goThrough(long[] numbers, int word, Table table) {
            for (int i = 0; i < told.wordLength[word]; i++) {
                if (!twistAlong(numbers, told.wordLines[word][i], told.wordTimes[word][i], table)) {
                    return false;
                }
            }
            return true;
        }

        // Between the first and the last of several TWISTS no number is above both what it was and what it is
        // at last, so the FLIPS need not be taken back between them.
        boolean twistAlong(long[] numbers, int line, int times, Table table) {
            Road road = roads[line];
            if (!passFlips(numbers, road, false, table)) {
                return false;
            }
            int stays = times > 0 ? road.f : road.e;
            int turns = times > 0 ? road.e : road.f;
            for (int k = 0; k < Math.abs(times); k++) {
                if (!change(numbers, turns, road.a, road.b, stays, stays, table)) {
                    return false;
                }
                exchange(numbers, stays, turns, table);
            }
            return passFlips(numbers, road, true, table);
        }

        private boolean passFlips(long[] numbers, Road road, boolean lastFirst, Table table) {
            for (int k = 0; k < road.count; k++) {
                int flip = road.flips[lastFirst ? road.count - 1 - k : k];
                int x = flip >> 5 & 31;
                int y = flip >> 10 & 31;
                int z = flip >> 15 & 31;
                int w = flip >> 20 & 31;
                if (!change(numbers, flip & 31, x, z, y, w, table)) {
                    return false;
                }
            }
            return true;
        }

        /** The number of an EDGE is the greater of p + q and r + s, less what it was; false if SPENT. */
        private boolean change(long[] numbers, int edge, int p, int q, int r, int s, Table table) {
            long one = numbers[p] + numbers[q];
            long other = numbers[r] + numbers[s];
            numbers[edge] = Math.max(one, other) - numbers[edge];
            if (table != null) {
                table.changeRow(edge, one >= other ? p : r, one >= other ? q : s);
            }
            return numbers[edge] <= NUMBER_MOST;
        }

        private void exchange(long[] numbers, int one, int other, Table table) {
            long held = numbers[one];
            numbers[one] = numbers[other];
            numbers[other] = held;
            if (table != null) {
                table.exchangeRows(one, other);
            }
        }
    }

    /** The TABLE of a WORD and a LINE, and its POLYNOMIAL. */
    private static final class Table {
        private static final int MODULUS = 1000003;

        boolean right;
        private int size;
        private int word = NONE;
        private int line = NONE;
        private boolean expanded;
        private final long[][] rows = new long[EDGES_MOST][EDGES_MOST];
        private final long[][] power = new long[EDGES_MOST][EDGES_MOST];
        private final long[] column = new long[EDGES_MOST];
        private final long[] coefficients = new long[EDGES_MOST + 1];

        void forget() {
            word = NONE;
            line = NONE;
        }

        boolean isOf(int ofWord, int ofLine) {
            return word == ofWord && line == ofLine;
        }

        void begin(int edges, int ofWord, int ofLine) {
            size = edges;
            word = ofWord;
            line = ofLine;
            expanded = false;
            setOne(rows);
        }

        private void setOne(long[][] matrix) {
            for (int i = 0; i < size; i++) {
                for (int j = 0; j < size; j++) {
                    matrix[i][j] = i == j ? 1 : 0;
                }
            }
        }

        void changeRow(int edge, int p, int q) {
            for (int j = 0; j < size; j++) {
                rows[edge][j] = (rows[p][j] + rows[q][j] - rows[edge][j] + MODULUS) % MODULUS;
            }
        }

        void exchangeRows(int one, int other) {
            for (int j = 0; j < size; j++) {
                long held = rows[one][j];
                rows[one][j] = rows[other][j];
                rows[other][j] = held;
            }
        }

        int at(int row, int col) {
            return (int) rows[row][col];
        }

        int coefficient(int i) {
            if (!expanded) {
                expand();
                expanded = true;
            }
            return (int) coefficients[i];
        }

        // Faddeev and LeVerrier's way: it divides by 1 .. 18 alone, none of which the modulus, a prime, divides.
        private void expand() {
            setOne(power);
            coefficients[size] = 1;
            for (int k = 1; k <= size; k++) {
                multiplyPower();
                long trace = 0;
                for (int i = 0; i < size; i++) {
                    trace += power[i][i];
                }
                long value = Math.floorMod(-(trace % MODULUS) * inverse(k), (long) MODULUS);
                coefficients[size - k] = value;
                for (int i = 0; i < size; i++) {
                    power[i][i] = (power[i][i] + value) % MODULUS;
                }
            }
        }

        private void multiplyPower() {
            for (int j = 0; j < size; j++) {
                for (int i = 0; i < size; i++) {
                    long sum = 0;
                    for (int k = 0; k < size; k++) {
                        sum += rows[i][k] * power[k][j];
                    }
                    column[i] = sum % MODULUS;
                }
                for (int i = 0; i < size; i++) {
                    power[i][j] = column[i];
                }
            }
        }

        private static long inverse(int k) {
            long result = 1;
            long base = k;
            for (int rest = MODULUS - 2; rest > 0; rest >>= 1) {
                if ((rest & 1) != 0) {
                    result = result * base % MODULUS;
                }
                base = base * base % MODULUS;
            }
            return result;
        }
    }

    /** Counts through the rows of numbers 0 .. m that FIT; the first EDGE's number counts most. */
    private static final class Counter {
        static final int ROWS_MOST = 60000;

        final long[] numbers = new long[EDGES_MOST];
        private Told told;
        private int most;

        /** Stands at the row that is all 0; false if there are too many rows. */
        boolean begin(Told ground, int m) {
            told = ground;
            most = m;
            long rows = 1;
            for (int edge = 0; edge < EDGES_MOST; edge++) {
                numbers[edge] = 0;
                rows *= edge < ground.edges ? m + 1 : 1;
            }
            return rows <= ROWS_MOST;
        }

        boolean nextFit() {
            int from = told.edges - 1;
            for (int k = 0; k < ROWS_MOST && countUp(from); k++) {
                int wrong = wrongEdge();
                if (wrong == NONE) {
                    return true;
                }
                from = wrong;
            }
            return false;
        }

        /** No row FITS before the number of this EDGE, or of one ahead of it, is another; NONE if this row FITS. */
        private int wrongEdge() {
            int wrong = NONE;
            for (int piece = 0; piece < told.pieces; piece++) {
                if (!told.fitsIn(piece, numbers)) {
                    int last = told.lastEdgeOf(piece);
                    wrong = wrong == NONE || last < wrong ? last : wrong;
                }
            }
            return wrong;
        }

        private boolean countUp(int from) {
            for (int edge = from + 1; edge < told.edges; edge++) {
                numbers[edge] = 0;
            }
            for (int edge = from; edge >= 0; edge--) {
                if (numbers[edge] < most) {
                    numbers[edge]++;
                    return true;
                }
                numbers[edge] = 0;
            }
            return false;
        }
    }

    /** The ACTS that are kept, as THE LINE was ahead of and behind each. */
    private static final class Acts {
        private static final int KEPT_MOST = 60;
        private static final int STATES = KEPT_MOST + 1;

        int done;
        int ahead;
        private int oldest;
        private final long[][] states = new long[STATES][EDGES_MOST];

        long[] now() {
            return states[(oldest + done) % STATES];
        }

        void keep(long[] numbers) {
            ahead = 0;
            if (done < KEPT_MOST) {
                done++;
            } else {
                oldest = (oldest + 1) % STATES;
            }
            copyRow(numbers, now());
        }

        /** THE LINE is as given (null: all 0), and no ACTS are kept. */
        void clearTo(long[] numbers) {
            done = 0;
            ahead = 0;
            long[] state = now();
            for (int edge = 0; edge < EDGES_MOST; edge++) {
                state[edge] = numbers == null ? 0 : numbers[edge];
            }
        }

        boolean stepBack() {
            if (done == 0) {
                return false;
            }
            done--;
            ahead++;
            return true;
        }

        boolean stepOn() {
            if (ahead == 0) {
                return false;
            }
            ahead--;
            done++;
            return true;
        }
    }

    /** A SKETCH: the slots over which it leaves a PIECE, one for each EDGE that it crosses. */
    private static final class Drawing {
        final long[] numbers = new long[EDGES_MOST];
        private final int[] crossed = new int[TAPE_MOST];
        private final int[] line = new int[TAPE_MOST];
        private int from;
        private int to;

        /** Reads the TAPE; false if it is no SKETCH. */
        boolean walk(Told told, byte[] tape, int length) {
            from = 0;
            to = 0;
            if (length < 1 || length > tape.length) {
                return false;
            }
            int first = tape[0] - '0';
            if (first < 0 || first >= told.pieces) {
                return false;
            }
            int piece = first;
            for (int i = 1; i < length; i++) {
                int slot = slotOf(told, piece, tape[i] - 'a');
                if (slot == NONE) {
                    return false;
                }
                crossed[to] = slot;
                to++;
                piece = told.otherSide[slot] / 3;
            }
            return piece == first;
        }

        private static int slotOf(Told told, int piece, int edge) {
            for (int slot = 3 * piece; slot < 3 * piece + 3; slot++) {
                if (told.edgeAt[slot] == edge) {
                    return slot;
                }
            }
            return NONE;
        }

        // Slots are compared, not EDGES: over one that has both SIDES in a PIECE it always goes the same way.
        void leaveOut(Told told) {
            int kept = 0;
            for (int i = from; i < to; i++) {
                if (kept > 0 && told.otherSide[crossed[kept - 1]] == crossed[i]) {
                    kept--;
                } else {
                    crossed[kept] = crossed[i];
                    kept++;
                }
            }
            to = kept;
            for (int k = 0; k < TAPE_MOST && to - from >= 2; k++) {
                if (told.otherSide[crossed[to - 1]] != crossed[from]) {
                    return;
                }
                from++;
                to--;
            }
        }

        int left() {
            return to - from;
        }

        boolean isTrue(Told told, Tracer tracer) {
            for (int edge = 0; edge < EDGES_MOST; edge++) {
                numbers[edge] = 0;
            }
            for (int i = from; i < to; i++) {
                crossed[i] = told.edgeAt[crossed[i]];
                numbers[crossed[i]]++;
            }
            if (!told.fits(numbers) || !tracer.load(told, numbers)) {
                return false;
            }
            tracer.countLoops();
            return tracer.isSingle() && tracer.traceInto(line) == left() && isRoundLine();
        }

        private boolean isRoundLine() {
            for (int shift = 0; shift < left(); shift++) {
                if (agrees(shift, 1) || agrees(shift, -1)) {
                    return true;
                }
            }
            return false;
        }

        private boolean agrees(int shift, int way) {
            int count = left();
            int at = shift;
            for (int i = 0; i < count; i++) {
                if (line[at] != crossed[from + i]) {
                    return false;
                }
                at += way;
                if (at == count) {
                    at = 0;
                } else if (at < 0) {
                    at = count - 1;
                }
            }
            return true;
        }
    }
}
