import java.util.Arrays;
import java.util.NoSuchElementException;

/** Boards for marbles, drawn by programs, run, compared and searched; ../shared/DOC.md has the promises. */
public final class MarbleWorks {
    public static final int NONE = -1;

    private static final int COLUMNS = 13;
    private static final int ROWS = 12;
    private static final int PLACES = 156;
    private static final int HOPPERS = 4;
    private static final int SHELVES = 4;
    private static final int MOVING_MOST = 16;
    private static final int DROPS_MOST = 200;

    private static final int EMPTY = 0;
    private static final int LEFT = 1;
    private static final int RIGHT = 2;
    private static final int CROSS = 3;
    private static final int GATE = 4;
    private static final int TRAP = 5;
    private static final int SIEVE = 6;
    private static final int COUNTER = 7;
    private static final int COG = 8;
    private static final int SEESAW = 9;

    private static final int CAUGHT = 256;
    private static final int JAMMED = 512;
    private static final int LOST = 768;

    private static final int OUT_OF_DROPS = 0;
    private static final int NO_LEVER = 1;
    private static final int OUT_OF_STOCK = 5;

    /** The WORDS by their numbers: 1 to 9 are the PIECES' own, so that a word's number is its PIECE's. */
    private static final String WORDS =
            "left right cross gate trap sieve counter cog seesaw put again mirror let use lane hopper by";
    private static final int PUT = 10;
    private static final int AGAIN = 11;
    private static final int MIRROR = 12;
    private static final int LET = 13;
    private static final int USE = 14;
    private static final int LANE = 15;
    private static final int HOPPER = 16;
    private static final int BY = 17;

    /** TOKENS that are no WORDS of these, with numbers that neither a WORD nor a sign has. */
    private static final int NAME = 18;
    private static final int NUMBER = 19;
    private static final int BAD = 20;
    private static final int BLANK = 21;
    private static final int END = 22;

    private final Tape tape = new Tape();
    private final Program program = new Program(tape);
    private final Board board = new Board();
    private final Painter painter = new Painter(program, board);
    private final Past past = new Past();
    private final Board[] shelves = new Board[SHELVES];
    private final boolean[] filled = new boolean[SHELVES];
    private final Log log = new Log();
    private final Seen seen = new Seen();
    private final Rounds rounds = new Rounds();
    private final Teller teller = new Teller();
    private final Wishes wishes = new Wishes();
    private final Sights sights = new Sights();

    public MarbleWorks() {
        for (int i = 0; i < SHELVES; i++) {
            shelves[i] = new Board();
        }
    }

    public int feed(long a, long b, long c) {
        tape.addEight(a);
        tape.addEight(b);
        tape.addEight(c);
        return tape.length;
    }

    public int draw() {
        int fault = program.read();
        if (fault != 0) {
            return fault;
        }
        Board ahead = past.spare();
        ahead.copy(board);
        int reason = painter.paint();
        if (reason != 0) {
            board.copy(ahead);
            return -reason;
        }
        past.keepSpare();
        forgetSearches();
        return 0;
    }

    public boolean takeBack() {
        if (past.kept == 0) {
            return false;
        }
        board.copy(past.takeLatest());
        forgetSearches();
        return true;
    }

    public int piece(int column, int row) {
        return isPlace(column, row) ? board.pieces[placeOf(column, row)] : NONE;
    }

    public int shows(int column, int row) {
        return isPlace(column, row) ? board.shownAt(placeOf(column, row)) : NONE;
    }

    public int train(int column, int row) {
        return isPlace(column, row) ? board.trains[placeOf(column, row)] : NONE;
    }

    public int lever(int lane) {
        return lane < 0 || lane >= COLUMNS ? NONE : board.levers[lane];
    }

    public int hopper(int hopper, int what) throws NoSuchElementException {
        if (!isHopper(hopper) || what < 0 || what > 2) {
            throw new NoSuchElementException();
        }
        if (what == 0) {
            return board.columns[hopper];
        }
        return what == 1 ? board.kinds[hopper] : board.stocks[hopper];
    }

    public int run(int hopper, int n) {
        if (!isHopper(hopper) || n < 1 || n > DROPS_MOST) {
            return NONE;
        }
        int next = hopper;
        for (int dropped = 0; dropped < n; dropped++) {
            if (board.stocks[next] == 0) {
                return OUT_OF_STOCK;
            }
            int how = dropNow(next);
            if (how >= CAUGHT) {
                return 1 + how / CAUGHT;
            }
            next = board.levers[how];
            if (next == NONE) {
                return NO_LEVER;
            }
        }
        return OUT_OF_DROPS;
    }

    public int logged(int i) {
        return log.latest(i);
    }

    public int round(int hopper, int what) {
        if (!isHopper(hopper) || what < 0 || what > 1) {
            return NONE;
        }
        rounds.look(board, hopper, seen);
        return what == 0 ? rounds.lead : rounds.period;
    }

    public boolean shelf(int shelf, boolean back) {
        if (shelf < 0 || shelf >= SHELVES || back && !filled[shelf]) {
            return false;
        }
        if (back) {
            board.copy(shelves[shelf]);
            past.kept = 0;
            forgetSearches();
            return true;
        }
        shelves[shelf].copy(board);
        filled[shelf] = true;
        teller.known = false;
        sights.listedShelf = NONE;
        return true;
    }

    public int alike(int a, int b) {
        if (!isFilled(a) || !isFilled(b)) {
            return NONE;
        }
        if (a == b) {
            return 0;
        }
        compareShelves(a, b);
        return teller.length;
    }

    public int telling(int a, int b, int i) {
        if (!isFilled(a) || !isFilled(b) || a == b) {
            return NONE;
        }
        compareShelves(a, b);
        return i < 0 || i >= teller.length ? NONE : teller.path[i];
    }

    public boolean wish(int column, int row, int to) {
        if (!isPlace(column, row) || to < 0 || to > 2) {
            return false;
        }
        int place = placeOf(column, row);
        return to == 2 ? wishes.drop(place, board) : wishes.set(place, to, board);
    }

    public int way() {
        wishes.look(board, seen);
        return wishes.length;
    }

    public int step(int i) {
        wishes.look(board, seen);
        return i < 0 || i >= wishes.length ? NONE : wishes.path[i];
    }

    public int sight(int hopper, int how) {
        if (hopper == NONE) {
            sights.forget();
            return 0;
        }
        return isHopper(hopper) ? sights.tell(hopper, how) : NONE;
    }

    public int suspect(int shelf, int i) {
        if (!isFilled(shelf)) {
            return NONE;
        }
        sights.list(shelves[shelf], shelf);
        return i < 0 || i >= sights.suspects ? NONE : sights.numbers[i];
    }

    public int test(int shelf) {
        if (!isFilled(shelf)) {
            return NONE;
        }
        sights.list(shelves[shelf], shelf);
        return sights.bestHopper(shelves[shelf]);
    }

    public int tries(int hopper) throws NoSuchElementException {
        if (!isHopper(hopper)) {
            throw new NoSuchElementException();
        }
        return board.dropFrom(board.state, hopper, 0L);
    }

    public int count(int what) {
        switch (what) {
            case 0: return board.pieceCount;
            case 1: return board.movingCount;
            case 2: return board.gateTrains();
            case 3: return log.drops;
            case 4: return past.kept;
            case 5: return tape.length;
            case 6: return wishes.size;
            case 7: return sights.told;
            case 8: return board.leverCount();
            case 9: return painter.latestPuts;
            default: return NONE;
        }
    }

    private static boolean isPlace(int column, int row) {
        return column >= 0 && column < COLUMNS && row >= 0 && row < ROWS;
    }

    private static int placeOf(int column, int row) {
        return COLUMNS * row + column;
    }

    private static boolean isHopper(int hopper) {
        return hopper >= 0 && hopper < HOPPERS;
    }

    private boolean isFilled(int shelf) {
        return shelf >= 0 && shelf < SHELVES && filled[shelf];
    }

    /** What ROUND and WAY found holds only as long as the BOARD stays as it is. */
    private void forgetSearches() {
        rounds.knownHopper = NONE;
        wishes.known = false;
    }

    private void compareShelves(int a, int b) {
        teller.look(shelves, a, b, seen);
    }

    private int dropNow(int hopper) {
        int how = board.dropFrom(board.state, hopper, 0L);
        board.state = board.after;
        board.stocks[hopper]--;
        log.add(hopper + HOPPERS * how);
        forgetSearches();
        return how;
    }

    /** The signs that were fed, and the TOKENS into which they are cut when they are read. */
    private static final class Tape {
        private static final int MOST = 1000;
        private static final int WORD_MOST = 8;
        private static final int NUMBER_MOST = 3;

        private final long[] words = new long[BY + 1];
        private final byte[] signs = new byte[MOST];
        /** The number of a WORD, NAME, NUMBER, BAD, END, or the sign itself for ( ) - and the semicolon. */
        private final int[] kinds = new int[MOST + 1];
        private final int[] starts = new int[MOST + 1];
        /** A NUMBER's value; a WORD's letters as the bytes of one number: WORDS are equal just if these are. */
        private final long[] values = new long[MOST + 1];
        private int length;
        private int tokens;

        Tape() {
            int word = 1;
            for (int i = 0; i < WORDS.length(); i++) {
                if (WORDS.charAt(i) == ' ') {
                    word++;
                } else if (word <= BY) {
                    words[word] = words[word] << 8 | WORDS.charAt(i);
                }
            }
        }

        void addEight(long eight) {
            for (int shift = 56; shift >= 0; shift -= 8) {
                int sign = (int) (eight >>> shift) & 255;
                if ((sign == '\n' || sign >= ' ' && sign <= '~') && length < MOST) {
                    signs[length] = (byte) sign;
                    length++;
                }
            }
        }

        /** Cuts all the signs into TOKENS, the last one the END, and takes them off the TAPE. */
        void cut() {
            tokens = 0;
            int last = BLANK;
            for (int at = 0; at < length; at++) {
                int sort = sortOf(signs[at]);
                if (sort == last && (sort == NAME || sort == NUMBER) && tokens > 0) {
                    lengthen(tokens - 1, at, sort);
                } else if (sort != BLANK) {
                    begin(at, sort);
                }
                last = sort;
            }
            for (int token = 0; token < tokens; token++) {
                kinds[token] = kinds[token] == NAME ? wordOf(values[token]) : kinds[token];
            }
            kinds[tokens] = END;
            starts[tokens] = length;
            length = 0;
        }

        private static int sortOf(int sign) {
            if (sign >= 'a' && sign <= 'z') {
                return NAME;
            }
            if (sign >= '0' && sign <= '9') {
                return NUMBER;
            }
            if (sign == ' ' || sign == '\n') {
                return BLANK;
            }
            return sign == '(' || sign == ')' || sign == '-' || sign == ';' ? sign : BAD;
        }

        private void begin(int at, int sort) {
            kinds[tokens] = sort;
            starts[tokens] = at;
            values[tokens] = sort == NUMBER ? signs[at] - '0' : signs[at];
            tokens++;
        }

        private void lengthen(int token, int at, int sort) {
            int signsNow = at - starts[token] + 1;
            if (sort == NAME) {
                values[token] = values[token] << 8 | signs[at];
            } else {
                values[token] = 10 * values[token] + signs[at] - '0';
            }
            if (signsNow > (sort == NAME ? WORD_MOST : NUMBER_MOST)) {
                kinds[token] = BAD;
            }
        }

        private int wordOf(long letters) {
            for (int word = LEFT; word <= BY; word++) {
                if (words[word] == letters) {
                    return word;
                }
            }
            return NAME;
        }
    }

    /** A PROGRAM as it was read: its LINES in rows, each with the number of the LINE behind all that is within it. */
    private static final class Program {
        private static final int WRONG = 1;
        private static final int UNTOLD = 2;
        private static final int TOLD = 3;
        private static final int OUT_OF_RANGE = 4;
        private static final int TOO_MANY = 5;
        private static final int NAMES_MOST = 30;
        private static final int NESTED_MOST = 4;
        /** A LINE has 8 signs at least (let a();), so a TAPE of 1,000 has no more. */
        private static final int LINES_MOST = 125;

        private final Tape tape;
        private final int[] acts = new int[LINES_MOST];
        private final int[] ends = new int[LINES_MOST];
        private final int[] firsts = new int[LINES_MOST];
        private final int[] seconds = new int[LINES_MOST];
        private final int[] thirds = new int[LINES_MOST];
        private final int[] fourths = new int[LINES_MOST];
        private final long[] names = new long[NAMES_MOST];
        private final int[] nameLines = new int[NAMES_MOST];
        /** The LINES whose ( is open: one let at most, and again and mirror in it. */
        private final int[] open = new int[NESTED_MOST + 1];
        /** The TOKEN at hand. */
        private int token;
        private int size;
        private int told;
        private int depth;
        private int fault;

        Program(Tape tape) {
            this.tape = tape;
        }

        /** 0, or the FAULT. */
        int read() {
            token = 0;
            size = 0;
            told = 0;
            depth = 0;
            fault = 0;
            tape.cut();
            for (int i = 0; i <= Tape.MOST && !isRead(); i++) {
                readLine();
            }
            return fault;
        }

        private boolean isRead() {
            return fault != 0 || kindAtHand() == END && depth == 0;
        }

        private void readLine() {
            switch (kindAtHand()) {
                case PUT: readPut(); break;
                case AGAIN: readAgain(); break;
                case MIRROR: readMirror(); break;
                case LET: readLet(); break;
                case USE: readUse(); break;
                case LANE: readLane(); break;
                case HOPPER: readHopper(); break;
                default: readClose(); break;
            }
        }

        private void readPut() {
            int line = begin(PUT);
            int piece = kindAtHand();
            if (piece < LEFT || piece > SEESAW) {
                fail(WRONG);
            }
            advance();
            int more = 0;
            if (piece == GATE || piece == SEESAW) {
                more = readNumber(0, 1);
            } else if (piece == SIEVE) {
                more = readNumber(0, 3);
            } else if (piece == COUNTER) {
                more = readNumber(2, 9);
            }
            int column = readNumber(0, COLUMNS - 1);
            int row = readNumber(0, ROWS - 1);
            readKind(';');
            write(line, piece, more, column, row);
        }

        private void readAgain() {
            checkNested();
            int line = begin(AGAIN);
            int times = readNumber(1, 12);
            readKind(BY);
            int columns = readShift();
            int rows = readShift();
            write(line, times, columns, rows, 0);
            readOpen(line);
        }

        private void readMirror() {
            checkNested();
            int line = begin(MIRROR);
            int column = readNumber(0, COLUMNS - 1);
            write(line, column, 0, 0, 0);
            readOpen(line);
        }

        private void readLet() {
            checkOutside();
            if (told >= NAMES_MOST) {
                fail(TOO_MANY);
            }
            int line = begin(LET);
            checkName();
            if (nameAtHand() != NONE) {
                fail(TOLD);
            }
            if (fault == 0) {
                names[told] = tape.values[token];
                nameLines[told] = line;
            }
            advance();
            readOpen(line);
        }

        private void readUse() {
            int line = begin(USE);
            checkName();
            int name = nameAtHand();
            if (name == NONE) {
                fail(UNTOLD);
            }
            advance();
            readKind(BY);
            int columns = readShift();
            int rows = readShift();
            readKind(';');
            if (fault == 0) {
                write(line, nameLines[name], columns, rows, 0);
            }
        }

        private void readLane() {
            checkOutside();
            int line = begin(LANE);
            int column = readNumber(0, COLUMNS - 1);
            int hopper = readNumber(0, HOPPERS);
            readKind(';');
            write(line, column, hopper == HOPPERS ? NONE : hopper, 0, 0);
        }

        private void readHopper() {
            checkOutside();
            int line = begin(HOPPER);
            int hopper = readNumber(0, HOPPERS - 1);
            int column = readNumber(0, COLUMNS - 1);
            int kind = readNumber(0, 3);
            int stock = readNumber(0, 999);
            readKind(';');
            write(line, hopper, column, kind, stock);
        }

        private void readOpen(int line) {
            readKind('(');
            if (fault == 0 && depth < open.length) {
                open[depth] = line;
                depth++;
            }
        }

        /** What begins no LINE can only be the ) behind some. */
        private void readClose() {
            if (depth == 0) {
                fail(WRONG);
            }
            readKind(')');
            readKind(';');
            if (fault == 0) {
                depth--;
                int line = open[depth];
                ends[line] = size;
                if (acts[line] == LET) {
                    told++;
                }
            }
        }

        private void checkNested() {
            boolean inLet = depth > 0 && acts[open[0]] == LET;
            if (depth - (inLet ? 1 : 0) >= NESTED_MOST) {
                fail(TOO_MANY);
            }
        }

        private void checkOutside() {
            if (depth > 0) {
                fail(WRONG);
            }
        }

        private void checkName() {
            if (kindAtHand() != NAME) {
                fail(WRONG);
            }
        }

        /** Takes the word that begins a LINE, and makes room for it; the LINE's number. */
        private int begin(int act) {
            if (size >= LINES_MOST) {
                fail(WRONG);
            }
            if (fault != 0) {
                return 0;
            }
            advance();
            acts[size] = act;
            ends[size] = size + 1;
            size++;
            return size - 1;
        }

        private void write(int line, int first, int second, int third, int fourth) {
            firsts[line] = first;
            seconds[line] = second;
            thirds[line] = third;
            fourths[line] = fourth;
        }

        private int readNumber(int least, int most) {
            long value = tape.values[token];
            if (kindAtHand() != NUMBER) {
                fail(WRONG);
            } else if (value < least || value > most) {
                fail(OUT_OF_RANGE);
            }
            advance();
            return (int) value;
        }

        private int readShift() {
            boolean minus = kindAtHand() == '-';
            if (minus) {
                advance();
            }
            int value = readNumber(0, 12);
            return minus ? -value : value;
        }

        private void readKind(int kind) {
            if (kindAtHand() != kind) {
                fail(WRONG);
            }
            advance();
        }

        private int kindAtHand() {
            return tape.kinds[token];
        }

        private int nameAtHand() {
            for (int i = 0; i < told; i++) {
                if (names[i] == tape.values[token]) {
                    return i;
                }
            }
            return NONE;
        }

        /** The first FAULT stays: behind it no TOKEN is taken any more. */
        private void fail(int kind) {
            if (fault == 0) {
                fault = kind + 16 * tape.starts[token];
            }
        }

        private void advance() {
            if (fault == 0 && token < tape.tokens) {
                token++;
            }
        }
    }

    /** Does a PROGRAM on a BOARD. What stands within ( ) is a frame of its own, so no call goes deep. */
    private static final class Painter {
        private static final int OFF = 1;
        private static final int TAKEN = 2;
        private static final int TOO_MANY_MOVING = 3;
        private static final int TOO_LONG = 4;
        private static final int LINES_MOST = 2000;
        /** The PROGRAM, 30 NAMES that use one another, and 4 of again and mirror in each, are 155. */
        private static final int FRAMES_MOST = 156;
        /** A frame that ends costs a turn too, and an again has 12 of them at most. */
        private static final int TURNS_MOST = 14 * (LINES_MOST + 1);

        private final Program program;
        private final Board board;
        private final int[] lines = new int[FRAMES_MOST];
        private final int[] starts = new int[FRAMES_MOST];
        private final int[] ends = new int[FRAMES_MOST];
        private final int[] timesLeft = new int[FRAMES_MOST];
        private final int[] columnSteps = new int[FRAMES_MOST];
        private final int[] rowSteps = new int[FRAMES_MOST];
        /** A column c becomes its shift + c, or its shift - c where it is mirrored. */
        private final int[] columnShifts = new int[FRAMES_MOST];
        private final int[] rowShifts = new int[FRAMES_MOST];
        private final boolean[] mirrored = new boolean[FRAMES_MOST];
        private final int[] queue = new int[PLACES];
        private int top;
        private int linesDone;
        private int puts;
        private int latestPuts;

        Painter(Program program, Board board) {
            this.program = program;
            this.board = board;
        }

        /** 0, or the REASON why it can't be done; then the BOARD is half drawn. */
        int paint() {
            top = 0;
            linesDone = 0;
            puts = 0;
            beginFrame(0, program.size, 1);
            int reason = 0;
            for (int turn = 0; turn < TURNS_MOST && top >= 0 && reason == 0; turn++) {
                if (lines[top] >= ends[top]) {
                    endTime();
                } else {
                    reason = doLine(lines[top]);
                }
            }
            if (reason == 0) {
                board.linkTrains(queue);
                latestPuts = puts;
            }
            return reason;
        }

        private void beginFrame(int start, int end, int times) {
            lines[top] = start;
            starts[top] = start;
            ends[top] = end;
            timesLeft[top] = times;
            columnSteps[top] = 0;
            rowSteps[top] = 0;
            if (top == 0) {
                columnShifts[top] = 0;
                rowShifts[top] = 0;
                mirrored[top] = false;
            } else {
                columnShifts[top] = columnShifts[top - 1];
                rowShifts[top] = rowShifts[top - 1];
                mirrored[top] = mirrored[top - 1];
            }
        }

        private void endTime() {
            timesLeft[top]--;
            if (timesLeft[top] <= 0) {
                top--;
                return;
            }
            lines[top] = starts[top];
            columnShifts[top] += columnSteps[top];
            rowShifts[top] += rowSteps[top];
        }

        private int doLine(int line) {
            linesDone++;
            if (linesDone > LINES_MOST || top + 1 >= FRAMES_MOST) {
                return TOO_LONG;
            }
            lines[top] = program.ends[line];
            switch (program.acts[line]) {
                case PUT: return doPut(line);
                case AGAIN: beginAgain(line); break;
                case MIRROR: beginMirror(line); break;
                case USE: beginUse(line); break;
                case LANE: board.levers[program.firsts[line]] = program.seconds[line]; break;
                case HOPPER: doHopper(line); break;
                default: break;
            }
            return 0;
        }

        private int doPut(int line) {
            int column = columnShifts[top] + turned(program.thirds[line]);
            int row = rowShifts[top] + program.fourths[line];
            if (!isPlace(column, row)) {
                return OFF;
            }
            int place = placeOf(column, row);
            if (board.pieces[place] != EMPTY) {
                return TAKEN;
            }
            int piece = program.firsts[line];
            int more = program.seconds[line];
            if (Board.isMoving(piece) && board.movingCount >= MOVING_MOST) {
                return TOO_MANY_MOVING;
            }
            if (mirrored[top]) {
                more = piece == GATE || piece == SEESAW ? 1 - more : more;
                piece = piece == LEFT || piece == RIGHT ? LEFT + RIGHT - piece : piece;
            }
            board.add(place, piece, more);
            puts++;
            return 0;
        }

        private int turned(int columns) {
            return mirrored[top] ? -columns : columns;
        }

        private void beginAgain(int line) {
            top++;
            beginFrame(line + 1, program.ends[line], program.firsts[line]);
            columnSteps[top] = turned(program.seconds[line]);
            rowSteps[top] = program.thirds[line];
        }

        private void beginMirror(int line) {
            top++;
            beginFrame(line + 1, program.ends[line], 1);
            columnShifts[top] += turned(2 * program.firsts[line]);
            mirrored[top] = !mirrored[top];
        }

        private void beginUse(int line) {
            int let = program.firsts[line];
            top++;
            beginFrame(let + 1, program.ends[let], 1);
            columnShifts[top] += turned(program.seconds[line]);
            rowShifts[top] += program.thirds[line];
        }

        private void doHopper(int line) {
            int hopper = program.firsts[line];
            board.columns[hopper] = program.seconds[line];
            board.kinds[hopper] = program.thirds[line];
            board.stocks[hopper] = program.fourths[line];
        }
    }

    /** PIECES, LEVERS and HOPPERS; all that MOVES is one number, four bits for each MOVING PIECE. */
    private static final class Board {
        private final int[] pieces = new int[PLACES];
        /** A SIEVE's kind, a COUNTER's n. */
        private final int[] sizes = new int[PLACES];
        /** Where in the state a MOVING PIECE's four bits begin. */
        private final int[] shifts = new int[PLACES];
        private final int[] trains = new int[PLACES];
        /** What a GATE changes in the state; no two TRAINS have a bit in common. */
        private final long[] flips = new long[PLACES];
        private final int[] levers = new int[COLUMNS];
        private final int[] columns = new int[HOPPERS];
        private final int[] kinds = new int[HOPPERS];
        private final int[] stocks = new int[HOPPERS];
        private int pieceCount;
        private int movingCount;
        private long state;
        /** The state behind the latest dropFrom. */
        private long after;

        Board() {
            Arrays.fill(trains, NONE);
            Arrays.fill(levers, NONE);
            for (int i = 0; i < HOPPERS; i++) {
                columns[i] = 3 * i + 1;
                kinds[i] = i;
            }
        }

        void copy(Board from) {
            System.arraycopy(from.pieces, 0, pieces, 0, PLACES);
            System.arraycopy(from.sizes, 0, sizes, 0, PLACES);
            System.arraycopy(from.shifts, 0, shifts, 0, PLACES);
            System.arraycopy(from.trains, 0, trains, 0, PLACES);
            System.arraycopy(from.flips, 0, flips, 0, PLACES);
            System.arraycopy(from.levers, 0, levers, 0, COLUMNS);
            System.arraycopy(from.columns, 0, columns, 0, HOPPERS);
            System.arraycopy(from.kinds, 0, kinds, 0, HOPPERS);
            System.arraycopy(from.stocks, 0, stocks, 0, HOPPERS);
            pieceCount = from.pieceCount;
            movingCount = from.movingCount;
            state = from.state;
        }

        static boolean isMoving(int piece) {
            return piece == GATE || piece == COUNTER || piece == SEESAW;
        }

        /** At an empty PLACE, with room for one more that MOVES; the TRAINS are linked later. */
        void add(int place, int piece, int more) {
            pieces[place] = piece;
            sizes[place] = more;
            pieceCount++;
            if (isMoving(piece)) {
                shifts[place] = 4 * movingCount;
                movingCount++;
                state |= piece == COUNTER ? 0L : (long) more << shifts[place];
            }
        }

        int shownAt(int place) {
            if (pieces[place] == SIEVE) {
                return sizes[place];
            }
            return isMoving(pieces[place]) ? (int) (state >>> shifts[place]) & 15 : NONE;
        }

        boolean isTurning(int place) {
            return pieces[place] == GATE || pieces[place] == SEESAW;
        }

        int leverCount() {
            int found = 0;
            for (int lane = 0; lane < COLUMNS; lane++) {
                found += levers[lane] == NONE ? 0 : 1;
            }
            return found;
        }

        int gateTrains() {
            long known = 0;
            int found = 0;
            for (int place = 0; place < PLACES; place++) {
                if (isFirstGate(place, known)) {
                    known |= flips[place];
                    found++;
                }
            }
            return found;
        }

        /** Whether none of the TRAINS that are known, by their bits, is this GATE's. */
        boolean isFirstGate(int place, long known) {
            return pieces[place] == GATE && (known & flips[place]) == 0;
        }

        void linkTrains(int[] queue) {
            Arrays.fill(trains, NONE);
            for (int place = 0; place < PLACES; place++) {
                linkTrain(place, queue);
            }
        }

        private void linkTrain(int first, int[] queue) {
            int end = reach(first, first, queue, 0);
            long flip = 0;
            for (int i = 0; i < end && i < PLACES; i++) {
                int place = queue[i];
                int column = place % COLUMNS;
                end = column > 0 ? reach(place - 1, first, queue, end) : end;
                end = column < COLUMNS - 1 ? reach(place + 1, first, queue, end) : end;
                end = reach(place - COLUMNS, first, queue, end);
                end = reach(place + COLUMNS, first, queue, end);
                flip |= pieces[place] == GATE ? 1L << shifts[place] : 0L;
            }
            for (int i = 0; i < end && i < PLACES; i++) {
                flips[queue[i]] = flip;
            }
        }

        /** Puts a GATE or COG that is in no TRAIN yet into this one; answers the queue's new end. */
        private int reach(int place, int first, int[] queue, int end) {
            if (place < 0 || place >= PLACES || end >= PLACES || trains[place] != NONE) {
                return end;
            }
            if (pieces[place] != GATE && pieces[place] != COG) {
                return end;
            }
            trains[place] = first;
            queue[end] = place;
            return end + 1;
        }

        /** HOW a DROP ends from a state on, if the GATES with the bits stuck never flip; sets after alone. */
        int dropFrom(long from, int hopper, long stuck) {
            after = from;
            int column = columns[hopper];
            boolean fromLeft = hopper % 2 == 0;
            for (int row = 0; row < ROWS; row++) {
                int place = placeOf(column, row);
                int piece = pieces[place];
                if (piece == EMPTY) {
                    continue;
                }
                if (piece == TRAP) {
                    return CAUGHT + 16 * row;
                }
                if (piece == COG) {
                    return JAMMED + 16 * row;
                }
                fromLeft = sendsRight(place, kinds[hopper], fromLeft, stuck);
                column += fromLeft ? 1 : -1;
                if (column < 0 || column >= COLUMNS) {
                    return LOST + 16 * row;
                }
            }
            return column;
        }

        private boolean sendsRight(int place, int kind, boolean fromLeft, long stuck) {
            int shift = shifts[place];
            int shown = (int) (after >>> shift) & 15;
            switch (pieces[place]) {
                case RIGHT:
                    return true;
                case CROSS:
                    return fromLeft;
                case GATE:
                    after ^= flips[place] & ~stuck;
                    return shown == 1;
                case SIEVE:
                    return kind != sizes[place];
                case COUNTER:
                    boolean full = shown + 1 >= sizes[place];
                    setBits(shift, full ? 0 : shown + 1);
                    return full;
                case SEESAW:
                    setBits(shift, fromLeft ? 1 : 0);
                    return shown == 1;
                default:
                    return false;
            }
        }

        private void setBits(int shift, int value) {
            after = after & ~(15L << shift) | (long) value << shift;
        }
    }

    /** The BOARDS ahead of the latest PROGRAMS, in a ring with one to spare for the PROGRAM that is tried. */
    private static final class Past {
        private static final int MOST = 20;

        private final Board[] boards = new Board[MOST + 1];
        private int first;
        private int kept;

        Past() {
            for (int i = 0; i <= MOST; i++) {
                boards[i] = new Board();
            }
        }

        Board spare() {
            return boards[(first + kept) % (MOST + 1)];
        }

        void keepSpare() {
            if (kept < MOST) {
                kept++;
            } else {
                first = (first + 1) % (MOST + 1);
            }
        }

        /** Only while one is kept. */
        Board takeLatest() {
            kept--;
            return spare();
        }
    }

    private static final class Log {
        private static final int MOST = 100;

        private final int[] rows = new int[MOST];
        private int drops;

        void add(int row) {
            rows[drops % MOST] = row;
            drops++;
        }

        int latest(int i) {
            return i < 0 || i >= MOST || i >= drops ? NONE : rows[(drops - 1 - i) % MOST];
        }
    }

    /** The states that have come up, numbered as they came, each with the state and HOPPER it came from. */
    private static final class Seen {
        private static final int MOST = 4000;
        private static final int CELLS = 8192;

        private final long[] firsts = new long[MOST];
        private final long[] seconds = new long[MOST];
        private final int[] parents = new int[MOST];
        private final int[] hoppers = new int[MOST];
        private final int[] cells = new int[CELLS];
        /** A cell holds only if its state's home is that cell: so nothing must be cleared for a new search. */
        private final int[] homes = new int[MOST];
        private int size;
        private int limit;
        private boolean fresh;

        void begin(int most) {
            size = 0;
            limit = Math.min(most, MOST);
        }

        /** The number of a state, fresh if it has come up only now; NONE if it would be beyond the limit. */
        int note(long first, long second, int parent, int hopper) {
            int cell = cellOf(first, second);
            fresh = !isTaken(cell);
            if (!fresh) {
                return cells[cell];
            }
            if (size >= limit) {
                return NONE;
            }
            firsts[size] = first;
            seconds[size] = second;
            parents[size] = parent;
            hoppers[size] = hopper;
            homes[size] = cell;
            cells[cell] = size;
            size++;
            return size - 1;
        }

        /** The state's cell, or the free one where it belongs. */
        private int cellOf(long first, long second) {
            long mixed = (first * 0x9E3779B97F4A7C15L + second) * 0xC2B2AE3D27D4EB4FL;
            int cell = (int) (mixed >>> 51);
            for (int i = 0; i < CELLS && isTaken(cell); i++) {
                if (firsts[cells[cell]] == first && seconds[cells[cell]] == second) {
                    return cell;
                }
                cell = (cell + 1) % CELLS;
            }
            return cell;
        }

        private boolean isTaken(int cell) {
            return cells[cell] < size && homes[cells[cell]] == cell;
        }

        /** Writes the TRY that led to a state, then one HOPPER more; answers its length. */
        int tracePath(int state, int last, int[] path) {
            int length = 1;
            for (int at = state; at > 0 && length < path.length; at = parents[at]) {
                length++;
            }
            path[length - 1] = last;
            int at = state;
            for (int i = length - 2; i >= 0; i--) {
                path[i] = hoppers[at];
                at = parents[at];
            }
            return length;
        }
    }

    /** When a run without end COMES ROUND. */
    private static final class Rounds {
        private static final int STATES_MOST = 4000;

        private int knownHopper = NONE;
        private int lead;
        private int period;

        void look(Board board, int hopper, Seen seen) {
            if (knownHopper == hopper) {
                return;
            }
            knownHopper = hopper;
            lead = NONE;
            period = NONE;
            seen.begin(STATES_MOST);
            long state = board.state;
            int next = hopper;
            for (int drops = 0; drops <= STATES_MOST; drops++) {
                int number = seen.note(state, next, drops - 1, next);
                if (!seen.fresh) {
                    lead = number;
                    period = drops - number;
                    return;
                }
                int how = board.dropFrom(state, next, 0L);
                if (number == NONE || how >= CAUGHT || board.levers[how] == NONE) {
                    return;
                }
                state = board.after;
                next = board.levers[how];
            }
        }
    }

    /** THE TELLING TRY of two SHELVES; it holds until a SHELF is filled. */
    private static final class Teller {
        private static final int PAIRS_MOST = 3000;

        private final int[] path = new int[PAIRS_MOST + 1];
        private boolean known;
        private int shelf;
        private int other;
        /** 0: they are ALIKE; NONE: unknown. */
        private int length;

        void look(Board[] shelves, int a, int b, Seen seen) {
            if (!known || shelf != a || other != b) {
                known = true;
                shelf = a;
                other = b;
                length = search(shelves[a], shelves[b], seen);
            }
        }

        private int search(Board a, Board b, Seen seen) {
            seen.begin(PAIRS_MOST);
            seen.note(a.state, b.state, NONE, NONE);
            for (int pair = 0; pair < seen.size && pair < PAIRS_MOST; pair++) {
                for (int hopper = 0; hopper < HOPPERS; hopper++) {
                    int how = a.dropFrom(seen.firsts[pair], hopper, 0L);
                    if (how != b.dropFrom(seen.seconds[pair], hopper, 0L)) {
                        return seen.tracePath(pair, hopper, path);
                    }
                    if (seen.note(a.after, b.after, pair, hopper) == NONE) {
                        return NONE;
                    }
                }
            }
            return 0;
        }
    }

    /** WISHES, and THE WAY to them; it holds until they or the BOARD change. */
    private static final class Wishes {
        private static final int MOST = 12;
        private static final int STATES_MOST = 3000;

        private final int[] places = new int[MOST];
        private final int[] wanted = new int[MOST];
        private final int[] path = new int[STATES_MOST + 1];
        private int size;
        private boolean known;
        private int length;

        boolean set(int place, int to, Board board) {
            int at = indexOf(place);
            if (!board.isTurning(place) || at >= MOST) {
                return false;
            }
            places[at] = place;
            wanted[at] = to;
            size = Math.max(size, at + 1);
            known = false;
            return true;
        }

        boolean drop(int place, Board board) {
            int at = indexOf(place);
            if (at >= size) {
                return board.isTurning(place);
            }
            size--;
            places[at] = places[size];
            wanted[at] = wanted[size];
            known = false;
            return true;
        }

        /** The size, where the PLACE has no WISH. */
        private int indexOf(int place) {
            int at = 0;
            while (at < size && places[at] != place) {
                at++;
            }
            return at;
        }

        void look(Board board, Seen seen) {
            if (!known) {
                known = true;
                length = search(board, seen);
            }
        }

        private int search(Board board, Seen seen) {
            long mask = 0;
            long goal = 0;
            for (int i = 0; i < size; i++) {
                if (!board.isTurning(places[i])) {
                    return NONE;
                }
                mask |= 1L << board.shifts[places[i]];
                goal |= (long) wanted[i] << board.shifts[places[i]];
            }
            if ((board.state & mask) == goal) {
                return 0;
            }
            seen.begin(STATES_MOST);
            seen.note(board.state, 0L, NONE, NONE);
            for (int state = 0; state < seen.size && state < STATES_MOST; state++) {
                for (int hopper = 0; hopper < HOPPERS; hopper++) {
                    board.dropFrom(seen.firsts[state], hopper, 0L);
                    if (seen.note(board.after, 0L, state, hopper) == NONE) {
                        return NONE;
                    }
                    if ((board.after & mask) == goal) {
                        return seen.tracePath(state, hopper, path);
                    }
                }
            }
            return NONE;
        }
    }

    /** SIGHTS, and the SUSPECTS that they leave of a SHELF; those hold until a SIGHT or a SHELF changes. */
    private static final class Sights {
        private static final int MOST = 60;
        private static final int HOW_MOST = 1000;

        private final int[] hoppers = new int[MOST];
        private final int[] hows = new int[MOST];
        private final int[] numbers = new int[MOVING_MOST + 1];
        private final long[] stucks = new long[MOVING_MOST + 1];
        private final long[] states = new long[MOVING_MOST + 1];
        private final int[] ends = new int[MOVING_MOST + 1];
        private int told;
        private int suspects;
        private int listedShelf = NONE;

        void forget() {
            told = 0;
            listedShelf = NONE;
        }

        int tell(int hopper, int how) {
            if (how < 0 || how > HOW_MOST || told >= MOST) {
                return NONE;
            }
            hoppers[told] = hopper;
            hows[told] = how;
            told++;
            listedShelf = NONE;
            return told - 1;
        }

        void list(Board board, int shelf) {
            if (listedShelf == shelf) {
                return;
            }
            listedShelf = shelf;
            suspects = 0;
            weigh(board, 0, 0L);
            long known = 0;
            for (int place = 0; place < PLACES; place++) {
                if (board.isFirstGate(place, known)) {
                    known |= board.flips[place];
                    weigh(board, 1 + place, board.flips[place]);
                }
            }
        }

        private void weigh(Board board, int number, long stuck) {
            long state = board.state;
            for (int i = 0; i < told; i++) {
                if (board.dropFrom(state, hoppers[i], stuck) != hows[i]) {
                    return;
                }
                state = board.after;
            }
            if (suspects <= MOVING_MOST) {
                numbers[suspects] = number;
                stucks[suspects] = stuck;
                states[suspects] = state;
                suspects++;
            }
        }

        int bestHopper(Board board) {
            int best = NONE;
            int least = 0;
            for (int hopper = 0; hopper < HOPPERS && suspects > 0; hopper++) {
                int most = mostAlike(board, hopper);
                if (best == NONE || most < least) {
                    best = hopper;
                    least = most;
                }
            }
            return best;
        }

        private int mostAlike(Board board, int hopper) {
            int most = 0;
            for (int i = 0; i < suspects; i++) {
                ends[i] = board.dropFrom(states[i], hopper, stucks[i]);
                int same = 0;
                for (int j = 0; j <= i; j++) {
                    same += ends[j] == ends[i] ? 1 : 0;
                }
                most = Math.max(most, same);
            }
            return most;
        }
    }
}
