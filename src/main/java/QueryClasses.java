/**
 * Queries over columns of eight kinds, told as texts: judged, made into code for a machine with a
 * pile, and run object by object. Truths and whole numbers are held as longs, floats and doubles
 * as their bits, so that one pile and one sort of row serve all kinds.
 */
public final class QueryClasses {
    public static final int NONE = -1, BAD = -1, FULL = -2, NO = -3;
    public static final long LOST = Long.MIN_VALUE;

    /** What about, act and told answer for BAD, since -1 means NONE (or is a number) there. */
    private static final int BAD_HERE = -2;

    private static final int MOST_OBJECTS = 16, MOST_COLUMNS = 10, MOST_CELLS = 16, LANES = 8;
    private static final int MOST_BYTES = 400, BYTES_FED = 20, MOST_QUERIES = 12, PARTS = 3;
    private static final int MOST_ACTS = 200, MOST_PILE = 24, MOST_OPEN = 12, MOST_GROUPS = 8;

    /** Every REAL has three bytes at least, so a text can't have more of them. */
    private static final int MOST_REALS = 134;

    private static final int TRUTHS = 0, BYTES = 1, SHORTS = 2, CHARS = 3, INTS = 4, LONGS = 5, FLOATS = 6;
    private static final int TRUTH = 0, INT = 1, LONG = 2, FLOAT = 3, DOUBLE = 4;

    private static final int NULL_ROW = 1, WRONG_INDEX = 2, WRONG_CAST = 3, ZERO = 4, ENDLESS = 5, NO_ROOM = 6;
    private static final int NO_TOKEN = 1, MISPLACED = 2, TOO_DEEP = 3, UNFIT = 4, NO_COLUMN = 5, TOO_LONG = 6;

    private static final int WHERE_PART = 0, SUM_PART = 1, KEY_PART = 2, FOLD_ITSELF = 3;

    private static final int LAY = 1, LAY_REAL = 2, LAY_OBJECT = 3, LOAD = 10, STORE = 20;
    private static final int ADD = 1, SUBTRACT = 2, MULTIPLY = 3, DIVIDE = 4, REMAIN = 5;
    private static final int AND_BITS = 6, OR_BITS = 7, XOR_BITS = 8, SHIFT_LEFT = 9, SHIFT_RIGHT = 10;
    private static final int SHIFT_ZERO = 11, NEGATE = 12, TURN_BITS = 13, COMPARE = 14, JUDGE = 15;
    private static final int CONVERT = 16, FUNCTION = 17;
    private static final int CONVERSIONS = 1600, NARROW = 1650, ABS = 1700, FLOOR = 1714, CEIL = 1724;
    private static final int RINT = 1734, SIGNUM = 1740, LEAST = 1750, GREATEST = 1760;
    private static final int JUMP_IF_NO = 1800, JUMP_IF_YES = 1801, JUMP = 1802, NOT_ACT = 1810;

    private final Row[] columns;
    private final byte[] tape;
    private final Query[] queries;
    private final Maker maker;
    private final Runner runner;
    private final Outcome outcome;
    private int objectCount, tapeLength, queryCount, textFault;

    public QueryClasses() {
        columns = new Row[MOST_COLUMNS];
        tape = new byte[MOST_BYTES];
        queries = new Query[MOST_QUERIES];
        Reals reals = new Reals();
        outcome = new Outcome();
        maker = new Maker(columns, tape, reals);
        runner = new Runner(columns, reals, outcome);
    }

    public int objects(int n) {
        if (n < 0 || n > MOST_OBJECTS) return BAD;
        int before = objectCount;
        objectCount = n;
        return before;
    }

    public int column(int c, int lane, int n) {
        if (!isColumn(c) || lane < 0 || lane >= LANES || n < 0 || n > MOST_CELLS) return BAD;
        columns[c] = new Row(lane, n);
        return 1;
    }

    public int share(int c, int d) {
        if (!isColumn(c) || !isColumn(d)) return BAD;
        columns[c] = columns[d];
        return 1;
    }

    public int drop(int c) {
        if (!isColumn(c)) return BAD;
        int there = columns[c] == null ? 0 : 1;
        columns[c] = null;
        return there;
    }

    public int put(int c, int i, long v) {
        // BAD goes ahead of NO, so an index that no row can have is looked at first.
        if (!isColumn(c) || i < 0 || i >= MOST_CELLS) return BAD;
        Row row = columns[c];
        if (row == null) return NO;
        if (!row.has(i) || !row.takes(v)) return BAD;
        row.bits[i] = row.lowest(v);
        return 1;
    }

    public long cell(int c, int i) {
        if (!isColumn(c)) return LOST;
        Row row = columns[c];
        return row == null || !row.has(i) ? LOST : row.bits[i];
    }

    public int about(int c, int what) {
        if (!isColumn(c) || what < 0 || what > 2) return BAD_HERE;
        Row row = columns[c];
        if (what == 2) return leastAlike(c);
        if (row == null) return NONE;
        return what == 0 ? row.lane : row.bits.length;
    }

    public int feed(int a, int b, int c, int d, int e) {
        if (tapeLength + BYTES_FED > MOST_BYTES) return FULL;
        feedNumber(a);
        feedNumber(b);
        feedNumber(c);
        feedNumber(d);
        feedNumber(e);
        return tapeLength;
    }

    public int end(int n) {
        if (n < 0 || n > tapeLength) return BAD;
        tapeLength = n;
        return 1;
    }

    public int query() {
        if (queryCount >= MOST_QUERIES) return FULL;
        Query made = maker.make(tapeLength);
        tapeLength = 0;
        textFault = maker.failure;
        if (made == null) return -10 - maker.failurePlace;
        queries[queryCount] = made;
        queryCount++;
        return queryCount - 1;
    }

    public int fault() {
        return textFault;
    }

    public int acts(int q, int part) {
        Code code = codeOf(q, part);
        return code == null ? BAD : code.size;
    }

    public int act(int q, int part, int i, int what) {
        Code code = codeOf(q, part);
        if (code == null || i < 0 || i >= code.size || what < 0 || what > 1) return BAD_HERE;
        return what == 0 ? code.op[i] : code.number[i];
    }

    public int run(int q) {
        if (!isQuery(q)) return BAD;
        return runner.go(queries[q], q, objectCount);
    }

    public int told(int what) {
        switch (what) {
            case 0: return outcome.failure;
            case 1: return outcome.part;
            case 2: return outcome.place;
            case 3: return outcome.done;
            case 4: return outcome.hits;
            case 5: return outcome.number;
            default: return BAD_HERE;
        }
    }

    public int hit(int k) {
        return outcome.has(k) ? outcome.members[k] : BAD;
    }

    public long score(int k) {
        return outcome.has(k) ? outcome.marks[k] : LOST;
    }

    public long value(int k) {
        return outcome.grouped && outcome.has(k) ? outcome.folded[k] : LOST;
    }

    public int count(int what) {
        switch (what) {
            case 0: return objectCount;
            case 1: return columnsThere();
            case 2: return queryCount;
            case 3: return tapeLength;
            default: return BAD;
        }
    }

    public int clear() {
        int before = queryCount;
        for (int q = 0; q < MOST_QUERIES; q++) queries[q] = null;
        queryCount = 0;
        outcome.begin(NONE, false);
        return before;
    }

    private static boolean isColumn(int c) {
        return c >= 0 && c < MOST_COLUMNS;
    }

    private boolean isQuery(int q) {
        return q >= 0 && q < queryCount && queries[q] != null;
    }

    private Code codeOf(int q, int part) {
        return isQuery(q) && part >= 0 && part < PARTS ? queries[q].parts[part] : null;
    }

    private int leastAlike(int c) {
        for (int other = 0; other < c; other++) {
            if (columns[other] == columns[c]) return other;
        }
        return c;
    }

    private int columnsThere() {
        int there = 0;
        for (int c = 0; c < MOST_COLUMNS; c++) {
            if (columns[c] != null) there++;
        }
        return there;
    }

    private void feedNumber(int number) {
        for (int shift = 24; shift >= 0 && tapeLength < MOST_BYTES; shift -= 8) {
            tape[tapeLength] = (byte) (number >> shift);
            tapeLength++;
        }
    }

    private static int kindOfLane(int lane) {
        if (lane == TRUTHS) return TRUTH;
        return lane <= INTS ? INT : lane - INTS + INT;
    }

    /** A row of CELLS, held as their BITS; COLUMNS that are the same one hold the same Row. */
    private static final class Row {
        final int lane;
        final long[] bits;

        Row(int lane, int cells) {
            this.lane = lane;
            this.bits = new long[cells > 0 ? cells : 0];
        }

        boolean has(int i) {
            return i >= 0 && i < bits.length;
        }

        boolean takes(long v) {
            int kind = kindOfLane(lane);
            return kind < FLOAT || !Reals.isNoNumber(kind, lowest(v));
        }

        long lowest(long v) {
            switch (lane) {
                case TRUTHS: return v != 0 ? 1 : 0;
                case BYTES: return (byte) v;
                case SHORTS: return (short) v;
                case CHARS: return (char) v;
                case INTS: case FLOATS: return (int) v;
                default: return v;
            }
        }
    }

    /** The ACTS of one PART. */
    private static final class Code {
        final int[] op, number;
        int size;
        /** More ACTS were told than there is room for; the code is of no use then. */
        boolean over;

        Code(int room) {
            op = new int[room > 0 ? room : 0];
            number = new int[room > 0 ? room : 0];
        }

        void reset() {
            size = 0;
            over = false;
        }

        Code trimmed() {
            Code copy = new Code(size);
            System.arraycopy(op, 0, copy.op, 0, size);
            System.arraycopy(number, 0, copy.number, 0, size);
            copy.size = size;
            return copy;
        }

        /** Its place, which aim takes. */
        int append(int newOp, int newNumber) {
            insert(size, newOp);
            if (!over) number[size - 1] = newNumber;
            return size - 1;
        }

        /** Jumps behind the place lead to what is behind it, too, and so go on by one. */
        void insert(int place, int newOp) {
            if (size >= op.length) over = true;
            if (over || place < 0 || place > size) return;
            for (int i = size; i > place; i--) {
                boolean jump = op[i - 1] >= JUMP_IF_NO && op[i - 1] <= JUMP;
                op[i] = op[i - 1];
                number[i] = jump ? number[i - 1] + 1 : number[i - 1];
            }
            op[place] = newOp;
            number[place] = 0;
            size++;
        }

        /** What stands ahead of the place becomes of another KIND; where it ends then. */
        int convert(int place, int kind, int wanted) {
            if (kind == wanted || kind == TRUTH) return place;
            insert(place, CONVERSIONS + 10 * kind + wanted);
            return place + 1;
        }

        void aim(int jump, int target) {
            if (!over && jump >= 0 && jump < size) number[jump] = target;
        }

        /** How high the PILE grows; behind a JUMP stands what lays the same value another way. */
        int pileNeeded() {
            int height = 0, most = 0;
            for (int i = 0; i < size; i++) {
                height += change(op[i]);
                if (height > most) most = height;
            }
            return most;
        }

        static boolean isJump(int op) {
            return op >= JUMP_IF_NO && op <= JUMP;
        }

        private static int change(int op) {
            if (op <= LAY_OBJECT) return 1;
            if (op < STORE) return 0;
            if (op < 100) return -2;
            int group = op / 100;
            if (group <= SHIFT_ZERO || group == COMPARE || isJump(op)) return -1;
            return op > LEAST && op < JUMP_IF_NO ? -1 : 0;
        }
    }

    private static final class Query {
        /** The WORDS it begins with, as Tokens has them: find, fold, set; of fold the how. */
        int verb, how;
        /** Of a VALUE. */
        int kind;
        boolean down;
        int first;
        final Code[] parts;
        final long[] reals;

        Query(Code[] code, long[] bits, int howMany) {
            first = MOST_OBJECTS;
            parts = new Code[PARTS];
            for (int p = 0; p < PARTS && p < code.length; p++) parts[p] = code[p].trimmed();
            reals = new long[howMany > 0 ? howMany : 0];
            for (int i = 0; i < reals.length && i < bits.length; i++) reals[i] = bits[i];
        }

        boolean has(int part) {
            return parts[part] != null && parts[part].size > 0;
        }
    }

    /** Reads THE TAPE as TOKENS. */
    private static final class Tokens {
        static final int END = 0, WRONG = 1, NUMBER = 2, REAL = 3, COLUMN = 4, OTHER_WORD = 5;

        /** The SIGNS, each filled up to the same width; a SIGN's token is FIRST_SIGN and its order here. */
        static final String SIGNS = "+  -  *  /  %  &  |  ^  ~  (  )  [  ]  ,  =  != <  >  <= >= << >> >>>?  :  := ";
        static final int SIGN_WIDTH = 3, FIRST_SIGN = 10;
        static final int PLUS = 10, MINUS = 11, STAR = 12, PER_CENT = 14, AMPERSAND = 15, HAT = 17, TILDE = 18;
        static final int OPEN = 19, CLOSE = 20, OPEN_INDEX = 21, CLOSE_INDEX = 22, COMMA = 23, EQUAL = 24;
        static final int UNEQUAL = 25, AT_LEAST = 29, LEFT = 30, RIGHT_ZERO = 32, ASK = 33, COLON = 34, BECOMES = 35;

        /** The WORDS, likewise. */
        static final String WORDS = "find  fold  set   order down  first where by    count sum   min   max   mean  or    and   not   row   yes   no    abs   floor ceil  rint  sign  byte  short char  int   long  float double";
        static final int WORD_WIDTH = 6, FIRST_WORD = 50;
        static final int FIND = 50, FOLD = 51, SET = 52, ORDER = 53, DOWN = 54, FIRST = 55, WHERE = 56, BY = 57;
        static final int COUNT = 58, SUM = 59, MIN = 60, MAX = 61, MEAN = 62, OR = 63, AND = 64, NOT = 65;
        static final int ROW = 66, YES = 67, NO_WORD = 68, ABS_OF = 69, FLOOR_OF = 70, CEIL_OF = 71, RINT_OF = 72;
        static final int SIGN_OF = 73, AS_BYTE = 74, AS_DOUBLE = 80;

        static final int MOST_FIGURES = 9;
        static final long MOST_NUMBER = 2147483647L;

        final byte[] tape;
        /** The TOKENS that were read: up to an END, or to the first one that is WRONG. */
        final int[] token, place;
        /** Of a NUMBER itself, of a COLUMN which, of a REAL all figures as a whole number. */
        final int[] number;
        /** Of a REAL: 10 to as many as stand behind the point. */
        final int[] divisor;
        int size, length, start, next;

        Tokens(byte[] tape) {
            this.tape = tape;
            token = new int[MOST_BYTES + 1];
            place = new int[MOST_BYTES + 1];
            number = new int[MOST_BYTES + 1];
            divisor = new int[MOST_BYTES + 1];
        }

        void readAll(int bytes) {
            length = bytes < tape.length ? bytes : tape.length;
            next = 0;
            boolean more = true;
            for (size = 0; size < token.length && more; size++) {
                while (next < length && isBlank(tape[next])) next++;
                start = next;
                place[size] = start;
                token[size] = readOne();
                more = token[size] != END && token[size] != WRONG;
            }
        }

        private int readOne() {
            if (start >= length) return END;
            if (isLetter(tape[start])) return readWord();
            if (isFigure(tape[start])) return readFigures();
            return tape[start] == '$' ? readColumn() : readSign();
        }

        private int readWord() {
            while (next < length && isLetter(tape[next])) next++;
            int found = entry(WORDS, WORD_WIDTH, next - start);
            return found < 0 ? OTHER_WORD : FIRST_WORD + found;
        }

        private int readSign() {
            for (int bytes = SIGN_WIDTH; bytes > 0; bytes--) {
                int found = start + bytes <= length ? entry(SIGNS, SIGN_WIDTH, bytes) : -1;
                if (found >= 0) {
                    next = start + bytes;
                    return FIRST_SIGN + found;
                }
            }
            return WRONG;
        }

        private int readColumn() {
            next++;
            if (next >= length || !isFigure(tape[next])) return WRONG;
            number[size] = tape[next] - '0';
            next++;
            return COLUMN;
        }

        private int readFigures() {
            long whole = figures(0);
            int point = next;
            if (next + 1 < length && tape[next] == '.' && isFigure(tape[next + 1])) {
                next++;
                whole = figures(whole);
                return readReal(whole, point);
            }
            number[size] = (int) whole;
            return whole > MOST_NUMBER ? WRONG : NUMBER;
        }

        private int readReal(long whole, int point) {
            if (next - start - 1 > MOST_FIGURES) return WRONG;
            int power = 1;
            for (int i = point + 1; i < next; i++) power *= 10;
            number[size] = (int) whole;
            divisor[size] = power;
            return REAL;
        }

        /** Stays just above MOST_NUMBER once it is there, so that no row of figures is too long for it. */
        private long figures(long whole) {
            while (next < length && isFigure(tape[next])) {
                whole = whole > MOST_NUMBER ? whole : whole * 10 + (tape[next] - '0');
                next++;
            }
            return whole;
        }

        /** Which entry of a table so many bytes from the start on are, or -1. */
        private int entry(String table, int width, int bytes) {
            for (int at = 0; bytes <= width && at + width <= table.length(); at += width) {
                int same = 0;
                while (same < bytes && tape[start + same] == table.charAt(at + same)) same++;
                // A blank of the table is no byte of a TOKEN, though THE TAPE may have one there, too.
                boolean whole = bytes == width || table.charAt(at + bytes) == ' ';
                if (same == bytes && whole && table.charAt(at + bytes - 1) != ' ') return at / width;
            }
            return -1;
        }

        private static boolean isBlank(int b) {
            return b == 32 || b == 10;
        }

        private static boolean isLetter(int b) {
            return b >= 'a' && b <= 'z';
        }

        private static boolean isFigure(int b) {
            return b >= '0' && b <= '9';
        }
    }

    /**
     * Reads sums and makes their code as it reads; each method that reads one answers its KIND.
     * Once there is a failure, no TOKEN fits anywhere, so all methods come to their ends.
     */
    private static final class Sums {
        static final int OR_LEVEL = 0, AND_LEVEL = 1, NOT_LEVEL = 2, TEST_LEVEL = 3, MIX_LEVEL = 4;
        static final int SHIFT_LEVEL = 5, PLUS_LEVEL = 6, TIMES_LEVEL = 7;

        final Row[] columns;
        final Tokens tokens;
        final Reals reals;
        final long[] realBits;
        int realCount, open, failure, failurePlace;
        /** The TOKEN that is met: which of all, what it is, and where it stands. */
        int at, token, place;
        /** Where ACTS go now. */
        Code code;

        Sums(Row[] columns, byte[] tape, Reals reals) {
            this.columns = columns;
            this.reals = reals;
            tokens = new Tokens(tape);
            realBits = new long[MOST_REALS];
        }

        void begin(int bytes, Code into) {
            code = into;
            realCount = 0;
            open = 0;
            failure = 0;
            failurePlace = 0;
            tokens.readAll(bytes);
            at = -1;
            take();
        }

        /** A TOKEN may be WRONG as soon as the one before has been taken. */
        void take() {
            if (failure != 0 || at + 1 >= tokens.size) return;
            at++;
            token = tokens.token[at];
            place = tokens.place[at];
            if (token == Tokens.WRONG) fail(NO_TOKEN, place);
        }

        void expect(int wanted) {
            if (token == wanted) take();
            else fail(MISPLACED, place);
        }

        void fail(int which, int where) {
            if (failure != 0) return;
            failure = which;
            failurePlace = where;
            token = Tokens.WRONG;
        }

        int number() {
            return at >= 0 && at < tokens.size ? tokens.number[at] : 0;
        }

        private void deepen() {
            if (open >= MOST_OPEN) fail(TOO_DEEP, place);
            open++;
        }

        private void takeOpening() {
            deepen();
            take();
        }

        private void takeClosing(int wanted) {
            expect(wanted);
            open--;
        }

        int sum() {
            int kind = joined(OR_LEVEL);
            return token == Tokens.ASK ? choice(kind) : kind;
        }

        private int choice(int asked) {
            deepen();
            if (asked != TRUTH) fail(UNFIT, place);
            take();
            int toSecond = code.append(JUMP_IF_NO, 0);
            int first = sum();
            int firstEnd = code.size, colon = place;
            code.append(JUMP, 0);
            expect(Tokens.COLON);
            int second = sum();
            open--;
            int kind = kindOfBoth(true, first, second, colon);
            int toEnd = code.convert(firstEnd, first, kind);
            code.convert(code.size, second, kind);
            code.aim(toSecond, toEnd + 1);
            code.aim(toEnd, code.size);
            return kind;
        }

        /** What is joined by WORDS and SIGNS of this level and of those that bind more. */
        int joined(int least) {
            boolean negated = least <= NOT_LEVEL && token == Tokens.NOT;
            int left = negated ? negation() : signed();
            int most = negated ? AND_LEVEL : TIMES_LEVEL;
            for (int i = 0; i < MOST_BYTES; i++) {
                int level = levelOf(token), sign = token, where = place, leftEnd = code.size;
                if (level < least || level > most) break;
                take();
                if (level == OR_LEVEL) code.append(JUMP_IF_YES, 0);
                if (level == AND_LEVEL) code.append(JUMP_IF_NO, 0);
                int right = joined(level + 1);
                if (level <= AND_LEVEL) left = decided(level, where, left, right, leftEnd);
                else if (level == SHIFT_LEVEL) left = shifted(sign, where, left, right);
                else left = paired(level, sign, where, left, right, leftEnd);
                most = level == TEST_LEVEL ? AND_LEVEL : level;
            }
            return left;
        }

        private static int levelOf(int token) {
            if (token == Tokens.OR) return OR_LEVEL;
            if (token == Tokens.AND) return AND_LEVEL;
            if (token >= Tokens.EQUAL && token <= Tokens.AT_LEAST) return TEST_LEVEL;
            if (token >= Tokens.AMPERSAND && token <= Tokens.HAT) return MIX_LEVEL;
            if (token >= Tokens.LEFT && token <= Tokens.RIGHT_ZERO) return SHIFT_LEVEL;
            if (token == Tokens.PLUS || token == Tokens.MINUS) return PLUS_LEVEL;
            return token >= Tokens.STAR && token <= Tokens.PER_CENT ? TIMES_LEVEL : -1;
        }

        /** or, and: the jump over the right one stands at the left one's end already. */
        private int decided(int level, int where, int left, int right, int leftEnd) {
            if (left != TRUTH || right != TRUTH) fail(UNFIT, where);
            int toEnd = code.append(JUMP, 0);
            code.aim(leftEnd, code.size);
            code.append(LAY, level == OR_LEVEL ? 1 : 0);
            code.aim(toEnd, code.size);
            return TRUTH;
        }

        private int shifted(int sign, int where, int left, int right) {
            if (!isWhole(left) || !isWhole(right)) fail(UNFIT, where);
            code.convert(code.size, right, INT);
            code.append(100 * (sign - Tokens.LEFT + SHIFT_LEFT) + left, 0);
            return left;
        }

        private int paired(int level, int sign, int where, int left, int right, int leftEnd) {
            boolean test = level == TEST_LEVEL, mix = level == MIX_LEVEL;
            if (mix && (left > LONG || right > LONG)) fail(UNFIT, where);
            int kind = kindOfBoth(mix || test && sign <= Tokens.UNEQUAL, left, right, where);
            int group = test ? COMPARE : sign - Tokens.PLUS + ADD;
            makeBoth(100 * group, kind, left, right, leftEnd);
            if (test) code.append(100 * JUDGE + sign - Tokens.EQUAL, 0);
            return test ? TRUTH : kind;
        }

        private void makeBoth(int base, int kind, int left, int right, int leftEnd) {
            code.convert(leftEnd, left, kind);
            code.convert(code.size, right, kind);
            code.append(base + (kind == TRUTH ? INT : kind), 0);
        }

        /** The later KIND of two numbers; or TRUTH of two truths, where they may be. */
        private int kindOfBoth(boolean truthsToo, int first, int second, int where) {
            boolean truths = first == TRUTH && second == TRUTH;
            boolean fits = truths ? truthsToo : first != TRUTH && second != TRUTH;
            if (!fits) fail(UNFIT, where);
            return first > second ? first : second;
        }

        private int negation() {
            int where = place;
            takeOpening();
            int kind = joined(NOT_LEVEL);
            open--;
            if (kind != TRUTH) fail(UNFIT, where);
            code.append(NOT_ACT, 0);
            return TRUTH;
        }

        private int signed() {
            boolean turned = token == Tokens.TILDE;
            if (!turned && token != Tokens.MINUS) return part();
            int where = place;
            takeOpening();
            int kind = signed();
            open--;
            if (turned ? !isWhole(kind) : kind == TRUTH) fail(UNFIT, where);
            code.append(100 * (turned ? TURN_BITS : NEGATE) + kind, 0);
            return kind;
        }

        private int part() {
            switch (token) {
                case Tokens.NUMBER: return simple(LAY, number(), INT);
                case Tokens.REAL: return simple(LAY_REAL, keepReal(), DOUBLE);
                case Tokens.ROW: return simple(LAY_OBJECT, 0, INT);
                case Tokens.YES: return simple(LAY, 1, TRUTH);
                case Tokens.NO_WORD: return simple(LAY, 0, TRUTH);
                case Tokens.COLUMN: return cellOfColumn();
                case Tokens.OPEN: return bracketed();
                default: return isFunction(token) ? function() : misplaced();
            }
        }

        private int simple(int op, int number, int kind) {
            code.append(op, number);
            take();
            return kind;
        }

        private int misplaced() {
            fail(MISPLACED, place);
            return INT;
        }

        /** Its order among the REALS of the query. */
        private int keepReal() {
            int which = realCount, divisor = tokens.divisor[at];
            if (which < realBits.length && divisor > 0) {
                realBits[which] = reals.bits(DOUBLE, (double) number() / (double) divisor);
                realCount++;
            }
            return which;
        }

        private int bracketed() {
            takeOpening();
            int kind = sum();
            takeClosing(Tokens.CLOSE);
            return kind;
        }

        /** The LANE of the COLUMN that is met, which is looked at before the TOKEN behind it. */
        int laneMet() {
            Row row = isColumn(number()) ? columns[number()] : null;
            if (row == null) fail(NO_COLUMN, place);
            return row == null ? INTS : row.lane;
        }

        private int cellOfColumn() {
            int which = number(), lane = laneMet();
            take();
            if (token == Tokens.OPEN_INDEX) readIndex();
            else code.append(LAY_OBJECT, 0);
            code.append(LOAD + lane, which);
            return kindOfLane(lane);
        }

        private void readIndex() {
            int where = place;
            takeOpening();
            int kind = sum();
            takeClosing(Tokens.CLOSE_INDEX);
            if (kind != INT) fail(UNFIT, where);
        }

        private static boolean isFunction(int token) {
            return token == Tokens.MIN || token == Tokens.MAX || token >= Tokens.ABS_OF && token <= Tokens.AS_DOUBLE;
        }

        private int function() {
            int word = token;
            boolean two = word == Tokens.MIN || word == Tokens.MAX;
            take();
            int where = place;
            if (token != Tokens.OPEN) return misplaced();
            takeOpening();
            int first = sum(), firstEnd = code.size, second = first;
            if (two) {
                expect(Tokens.COMMA);
                second = sum();
            }
            takeClosing(Tokens.CLOSE);
            int kind = kindOfBoth(false, first, second, where);
            if (!two) return ofOne(word, kind);
            makeBoth(word == Tokens.MIN ? LEAST : GREATEST, kind, first, second, firstEnd);
            return kind;
        }

        private int ofOne(int word, int kind) {
            if (word >= Tokens.AS_BYTE) return cast(kind, word - Tokens.AS_BYTE + BYTES);
            boolean keeps = word == Tokens.ABS_OF || word == Tokens.SIGN_OF && kind == FLOAT;
            int made = keeps ? kind : DOUBLE;
            code.convert(code.size, kind, made);
            code.append(opOfOne(word, made), 0);
            return made;
        }

        private static int opOfOne(int word, int kind) {
            switch (word) {
                case Tokens.ABS_OF: return ABS + kind;
                case Tokens.FLOOR_OF: return FLOOR;
                case Tokens.CEIL_OF: return CEIL;
                case Tokens.RINT_OF: return RINT;
                default: return SIGNUM + kind;
            }
        }

        int cast(int kind, int lane) {
            int wanted = kindOfLane(lane);
            code.convert(code.size, kind, wanted);
            if (lane <= CHARS) code.append(NARROW + lane, 0);
            return wanted;
        }

        static boolean isWhole(int kind) {
            return kind == INT || kind == LONG;
        }
    }

    /** Makes a query of THE TAPE. */
    private static final class Maker {
        final Sums sums;
        final Code[] parts;
        int failure, failurePlace;
        /** What is to be told of the query, beside its code. */
        int verb, how, kind, first;
        boolean down;

        Maker(Row[] columns, byte[] tape, Reals reals) {
            sums = new Sums(columns, tape, reals);
            parts = new Code[PARTS];
            for (int p = 0; p < PARTS; p++) parts[p] = new Code(MOST_ACTS);
        }

        /** null: there is a failure. */
        Query make(int bytes) {
            begin();
            sums.begin(bytes, parts[WHERE_PART]);
            verb = sums.token;
            if (verb == Tokens.FIND) readFind();
            else if (verb == Tokens.FOLD) readFold();
            else if (verb == Tokens.SET) readSet();
            else sums.fail(MISPLACED, sums.place);
            if (verb == Tokens.FIND) readOrder();
            if (verb == Tokens.FIND) readFirst();
            if (verb != Tokens.FIND) readWhere();
            if (verb == Tokens.FOLD) readBy();
            sums.expect(Tokens.END);
            if (isTooLong()) sums.fail(TOO_LONG, bytes);
            failure = sums.failure;
            failurePlace = sums.failurePlace;
            return failure != 0 ? null : made();
        }

        private void begin() {
            for (int p = 0; p < PARTS; p++) parts[p].reset();
            how = Tokens.COUNT;
            kind = LONG;
            first = MOST_OBJECTS;
            down = false;
        }

        private Query made() {
            Query query = new Query(parts, sums.realBits, sums.realCount);
            query.verb = verb;
            query.how = how;
            query.kind = kind;
            query.first = first;
            query.down = down;
            return query;
        }

        private boolean isTooLong() {
            for (int p = 0; p < PARTS; p++) {
                if (parts[p].over || parts[p].pileNeeded() > MOST_PILE) return true;
            }
            return false;
        }

        /** Takes the WORD ahead of what is the code of a PART. */
        private void enter(int part) {
            sums.code = parts[part];
            sums.take();
        }

        private void mustFit(boolean fits) {
            if (!fits) sums.fail(UNFIT, sums.place);
        }

        private void readFind() {
            enter(WHERE_PART);
            mustFit(sums.joined(Sums.OR_LEVEL) == TRUTH);
        }

        private void readFirst() {
            if (sums.token != Tokens.FIRST) return;
            sums.take();
            if (sums.token == Tokens.NUMBER) first = sums.number();
            sums.expect(Tokens.NUMBER);
        }

        private void readOrder() {
            if (sums.token != Tokens.ORDER) return;
            enter(SUM_PART);
            int told = sums.sum();
            mustFit(told != TRUTH);
            sums.code.convert(sums.code.size, told, DOUBLE);
            if (sums.token == Tokens.DOWN) {
                down = true;
                sums.take();
            }
        }

        private void readFold() {
            sums.take();
            how = sums.token;
            if (how == Tokens.COUNT) {
                sums.take();
                return;
            }
            if (how < Tokens.SUM || how > Tokens.MEAN) sums.fail(MISPLACED, sums.place);
            enter(SUM_PART);
            int told = sums.sum();
            mustFit(told != TRUTH);
            kind = told;
            if (how == Tokens.MEAN) kind = DOUBLE;
            if (how == Tokens.SUM) kind = Sums.isWhole(told) ? LONG : DOUBLE;
            sums.code.convert(sums.code.size, told, kind);
        }

        private void readSet() {
            enter(SUM_PART);
            int which = sums.number(), lane = sums.token == Tokens.COLUMN ? sums.laneMet() : INTS;
            sums.expect(Tokens.COLUMN);
            int becomes = sums.place;
            sums.expect(Tokens.BECOMES);
            sums.code.append(LAY_OBJECT, 0);
            int told = sums.sum();
            if ((lane == TRUTHS) != (told == TRUTH)) sums.fail(UNFIT, becomes);
            if (lane != TRUTHS) sums.cast(told, lane);
            sums.code.append(STORE + lane, which);
        }

        private void readWhere() {
            if (sums.token != Tokens.WHERE) return;
            enter(WHERE_PART);
            mustFit(sums.joined(Sums.OR_LEVEL) == TRUTH);
        }

        private void readBy() {
            if (sums.token != Tokens.BY) return;
            enter(KEY_PART);
            mustFit(Sums.isWhole(sums.sum()));
        }
    }

    /** Floats and doubles by their bits (those of a float as an int), which are never of no number here. */
    private static final class Reals {
        static final long DOUBLE_SIZE = 0x7FFFFFFFFFFFFFFFL, FLOAT_SIZE = 0x7FFFFFFFL;
        static final long DOUBLE_INFINITE = 0x7FF0000000000000L, FLOAT_INFINITE = 0x7F800000L;
        static final long DOUBLE_ONE = 0x3FF0000000000000L, FLOAT_ONE = 0x3F800000L;
        /** From 2 to 52 on (here its bits) all doubles are whole. */
        static final long ALL_WHOLE = 0x4330000000000000L;
        static final int DOUBLE_PLACES = 52, FLOAT_PLACES = 23, DOUBLE_BIAS = 1023, FLOAT_BIAS = 127;
        /** A remainder has up to 53 bits: so many more keep it within a long. */
        static final int SHIFT_AT_ONCE = 10;

        /** 2 to 1, 2, 4, 8, ..; and to -1, -2, -4, -8, .. . */
        final double[] up, down;

        Reals() {
            up = new double[10];
            down = new double[11];
            double factor = 2.0;
            for (int i = 0; i < up.length; i++) {
                up[i] = factor;
                if (i < up.length - 1) factor = factor * factor;
            }
            factor = 0.5;
            for (int i = 0; i < down.length; i++) {
                down[i] = factor;
                factor = factor * factor;
            }
        }

        static long sizeOf(int kind, long v) {
            return v & (kind == FLOAT ? FLOAT_SIZE : DOUBLE_SIZE);
        }

        static boolean isZero(int kind, long v) {
            return sizeOf(kind, v) == 0;
        }

        static boolean isInfinite(int kind, long v) {
            return sizeOf(kind, v) == (kind == FLOAT ? FLOAT_INFINITE : DOUBLE_INFINITE);
        }

        static boolean isNoNumber(int kind, long v) {
            return sizeOf(kind, v) > (kind == FLOAT ? FLOAT_INFINITE : DOUBLE_INFINITE);
        }

        static long negated(int kind, long v) {
            return v ^ (kind == FLOAT ? ~FLOAT_SIZE : ~DOUBLE_SIZE);
        }

        static long signOf(int kind, long v) {
            if (isZero(kind, v)) return v;
            long one = kind == FLOAT ? FLOAT_ONE : DOUBLE_ONE;
            return v < 0 ? negated(kind, one) : one;
        }

        /** A long that is in the order of the numbers, with -0.0 ahead of 0.0. */
        static long ordered(long v) {
            return v < 0 ? v ^ DOUBLE_SIZE : v;
        }

        /** -1, 0, 1; of all KINDS. */
        static int compared(int kind, long a, long b) {
            boolean real = kind >= FLOAT;
            if (real && isZero(kind, a) && isZero(kind, b)) return 0;
            long first = real ? ordered(a) : a, second = real ? ordered(b) : b;
            return first < second ? -1 : first > second ? 1 : 0;
        }

        /** The lesser or greater one; of all KINDS. */
        static long extreme(boolean greatest, int kind, long a, long b) {
            boolean firstIsLess = kind >= FLOAT ? ordered(a) < ordered(b) : a < b;
            return firstIsLess != greatest ? a : b;
        }

        double real(int kind, long v) {
            long size = sizeOf(kind, v);
            boolean infinite = size == (kind == FLOAT ? FLOAT_INFINITE : DOUBLE_INFINITE);
            double real = infinite ? 1e308 * 10.0 : scaled(digits(kind, size), power(kind, size));
            return v < 0 ? -1.0 * real : real;
        }

        /** A finite size is its digits by 2 to its power. */
        private static long digits(int kind, long size) {
            long most = 1L << (kind == FLOAT ? FLOAT_PLACES : DOUBLE_PLACES);
            return size < most ? size : size & (most - 1) | most;
        }

        private static int power(int kind, long size) {
            int places = kind == FLOAT ? FLOAT_PLACES : DOUBLE_PLACES;
            int bias = kind == FLOAT ? FLOAT_BIAS : DOUBLE_BIAS;
            int exponent = (int) (size >> places);
            return (exponent > 1 ? exponent : 1) - bias - places;
        }

        private double scaled(long digits, int power) {
            double[] factors = power < 0 ? down : up;
            int left = power < 0 ? -power : power;
            double real = (double) digits;
            for (int i = 0; i < factors.length; i++) {
                if ((left >> i & 1) != 0) real = real * factors[i];
            }
            return real;
        }

        /** Of a number that is of that KIND. */
        long bits(int kind, double real) {
            // Only what it divides tells -0.0 from 0.0.
            boolean less = real < 0.0 || real == 0.0 && 1.0 / real < 0.0;
            long size = real == 0.0 ? 0 : sizeBits(kind, less ? -1.0 * real : real);
            return less ? negated(kind, size) : size;
        }

        private long sizeBits(int kind, double size) {
            if (size > 1.7976931348623157E308) return kind == FLOAT ? FLOAT_INFINITE : DOUBLE_INFINITE;
            int places = kind == FLOAT ? FLOAT_PLACES : DOUBLE_PLACES;
            int bias = kind == FLOAT ? FLOAT_BIAS : DOUBLE_BIAS;
            boolean big = size >= 1.0;
            double near = size;
            int power = 0;
            for (int i = up.length - 1; i >= 0; i--) {
                double nearer = near * (big ? down[i] : up[i]);
                if (big ? nearer >= 1.0 : nearer < 2.0) {
                    near = nearer;
                    power += big ? 1 << i : -(1 << i);
                }
            }
            long digits = (long) (near * 4503599627370496.0) >> DOUBLE_PLACES - places;
            int lowest = 1 - bias;
            // The digits' own highest bit makes the exponent one more.
            return power < lowest ? digits >> lowest - power : ((long) (power - lowest) << places) + digits;
        }

        /** Whether no number would come. */
        static boolean isEndless(int group, int kind, long a, long b) {
            boolean infinite = isInfinite(kind, a), infiniteToo = isInfinite(kind, b);
            boolean zero = isZero(kind, a), zeroToo = isZero(kind, b);
            switch (group) {
                case ADD: return infinite && infiniteToo && a != b;
                case SUBTRACT: return infinite && infiniteToo && a == b;
                case MULTIPLY: return infinite && zeroToo || zero && infiniteToo;
                case DIVIDE: return infinite && infiniteToo || zero && zeroToo;
                default: return infinite || zeroToo;
            }
        }

        /** What comes of + - * /, where it isn't endless. */
        long joined(int group, int kind, long a, long b) {
            double x = real(kind, a), y = real(kind, b);
            if (kind == FLOAT) return bits(FLOAT, (double) ofFloats(group, (float) x, (float) y));
            return bits(DOUBLE, ofDoubles(group, x, y));
        }

        private static float ofFloats(int group, float x, float y) {
            switch (group) {
                case ADD: return x + y;
                case SUBTRACT: return x - y;
                case MULTIPLY: return x * y;
                default: return x / y;
            }
        }

        private static double ofDoubles(int group, double x, double y) {
            switch (group) {
                case ADD: return x + y;
                case SUBTRACT: return x - y;
                case MULTIPLY: return x * y;
                default: return x / y;
            }
        }

        /** Digit by digit, since a quotient of doubles would lose what is behind its 53 bits. */
        long remainder(int kind, long a, long b) {
            long size = sizeOf(kind, a), divisor = sizeOf(kind, b);
            if (size < divisor || divisor == 0) return a;
            long by = digits(kind, divisor), rest = by == 0 ? 0 : digits(kind, size) % by;
            int power = power(kind, divisor);
            for (int left = power(kind, size) - power; left > 0 && by > 0; left -= SHIFT_AT_ONCE) {
                rest = (rest << (left < SHIFT_AT_ONCE ? left : SHIFT_AT_ONCE)) % by;
            }
            long bits = bits(kind, scaled(rest, power));
            return a < 0 ? negated(kind, bits) : bits;
        }

        /** From a KIND of number to another one. */
        long converted(int from, int to, long v) {
            if (from < FLOAT) {
                if (to < FLOAT) return to == INT ? (int) v : v;
                return bits(to, to == FLOAT ? (double) (float) v : (double) v);
            }
            double real = real(from, v);
            if (to < FLOAT) return to == INT ? (int) real : (long) real;
            return bits(to, to == FLOAT ? (double) (float) real : real);
        }

        /** floor, ceil, rint of a double. */
        long rounded(int op, long v) {
            if (sizeOf(DOUBLE, v) >= ALL_WHOLE) return v;
            double real = real(DOUBLE, v);
            long whole = (long) real;
            double rest = real - (double) whole;
            boolean odd = (whole & 1) != 0;
            if (op == FLOOR && rest < 0.0) whole--;
            if (op == CEIL && rest > 0.0) whole++;
            if (op == RINT && (rest < -0.5 || rest == -0.5 && odd)) whole--;
            if (op == RINT && (rest > 0.5 || rest == 0.5 && odd)) whole++;
            return whole == 0 ? v & ~DOUBLE_SIZE : bits(DOUBLE, (double) whole);
        }
    }

    /** Does the ACTS of one PART for one OBJECT; what was set in a RUN can be made as it was. */
    private static final class Machine {
        final Row[] columns;
        final Reals reals;
        final long[] pile;
        final Row[] setRows;
        final int[] setPlaces;
        final long[] setBefore;
        int top, at, done, failure, object, sets;
        long[] realBits;

        Machine(Row[] columns, Reals reals) {
            this.columns = columns;
            this.reals = reals;
            pile = new long[MOST_PILE];
            setRows = new Row[MOST_OBJECTS];
            setPlaces = new int[MOST_OBJECTS];
            setBefore = new long[MOST_OBJECTS];
        }

        void begin(long[] bits) {
            realBits = bits;
            done = 0;
            failure = 0;
            sets = 0;
        }

        /** Whether it came to its end; what is laid last is its answer. */
        boolean perform(Code code, int forObject) {
            object = forObject;
            top = 0;
            at = 0;
            // Jumps lead on alone, so no ACT is done twice.
            for (int i = 0; i < code.size && at >= 0 && at < code.size; i++) {
                int op = code.op[at], group = op / 100, next = at + 1;
                if (Code.isJump(op)) next = jumps(op) ? code.number[at] : next;
                else if (group == 0) small(op, code.number[at]);
                else if (group <= SHIFT_ZERO || group == COMPARE) joinTwo(group, op % 100, pop());
                else turnOne(group, op, pop());
                if (failure != 0) return false;
                at = next;
                done++;
            }
            return true;
        }

        long answer() {
            return top > 0 ? pile[top - 1] : 0;
        }

        private boolean jumps(int op) {
            return op == JUMP || (pop() != 0) == (op == JUMP_IF_YES);
        }

        private void push(long v) {
            if (top >= pile.length) return;
            pile[top] = v;
            top++;
        }

        private long pop() {
            if (top <= 0) return 0;
            top--;
            return pile[top];
        }

        private void small(int op, int number) {
            if (op == LAY) push(number);
            else if (op == LAY_REAL) push(number >= 0 && number < realBits.length ? realBits[number] : 0);
            else if (op == LAY_OBJECT) push(object);
            else if (op < STORE) load(op - LOAD, number, pop());
            else store(op - STORE, number, pop(), pop());
        }

        private void load(int lane, int column, long index) {
            Row row = rowFor(lane, column, index);
            if (row != null && row.has((int) index)) push(row.bits[(int) index]);
        }

        private void store(int lane, int column, long v, long index) {
            Row row = rowFor(lane, column, index);
            int i = (int) index;
            if (row == null || !row.has(i) || sets >= setRows.length) return;
            setRows[sets] = row;
            setPlaces[sets] = i;
            setBefore[sets] = row.bits[i];
            sets++;
            row.bits[i] = v;
        }

        private Row rowFor(int lane, int column, long index) {
            Row row = column >= 0 && column < columns.length ? columns[column] : null;
            if (row == null) failure = NULL_ROW;
            else if (row.lane != lane) failure = WRONG_CAST;
            else if (!row.has((int) index)) failure = WRONG_INDEX;
            return failure == 0 ? row : null;
        }

        /** From the latest back, since a CELL may have been set more than once. */
        void undo() {
            for (int s = sets - 1; s >= 0 && s < setRows.length; s--) {
                Row row = setRows[s];
                if (row != null && row.has(setPlaces[s])) row.bits[setPlaces[s]] = setBefore[s];
            }
            sets = 0;
        }

        private void joinTwo(int group, int kind, long second) {
            long first = pop();
            boolean sums = group <= REMAIN;
            if (group == COMPARE) push(Reals.compared(kind, first, second));
            else if (!sums) push(mixed(group, kind, first, second));
            else if (kind < FLOAT && group >= DIVIDE && second == 0) failure = ZERO;
            else if (kind == INT) push((int) ofWhole(group, first, second));
            else if (kind == LONG) push(ofWhole(group, first, second));
            else if (Reals.isEndless(group, kind, first, second)) failure = ENDLESS;
            else if (group == REMAIN) push(reals.remainder(kind, first, second));
            else push(reals.joined(group, kind, first, second));
        }

        private void turnOne(int group, int op, long v) {
            if (group == FUNCTION && op > LEAST) push(Reals.extreme(op > GREATEST, op % 10, pop(), v));
            else if (group == FUNCTION && op < SIGNUM && op >= FLOOR) push(reals.rounded(op, v));
            else if (group == FUNCTION) push(op > SIGNUM ? Reals.signOf(op % 10, v) : absolute(op % 10, v));
            else if (op > NARROW && group == CONVERT) push(narrowed(op - NARROW, v));
            else if (group == CONVERT) push(reals.converted(op / 10 % 10, op % 10, v));
            else push(turned(group, op % 100, v));
        }

        private static long ofWhole(int group, long a, long b) {
            switch (group) {
                case ADD: return a + b;
                case SUBTRACT: return a - b;
                case MULTIPLY: return a * b;
                case DIVIDE: return b == 0 ? 0 : a / b;
                default: return b == 0 ? 0 : a % b;
            }
        }

        private static long mixed(int group, int kind, long a, long b) {
            int by = (int) b;
            switch (group) {
                case AND_BITS: return a & b;
                case OR_BITS: return a | b;
                case XOR_BITS: return a ^ b;
                case SHIFT_LEFT: return kind == INT ? (int) a << by : a << by;
                case SHIFT_RIGHT: return kind == INT ? (int) a >> by : a >> by;
                default: return kind == INT ? (int) a >>> by : a >>> by;
            }
        }

        private static long narrowed(int lane, long v) {
            if (lane == BYTES) return (byte) v;
            return lane == SHORTS ? (short) v : (char) v;
        }

        private static long turned(int group, int kind, long v) {
            if (group == JUDGE) return judged(kind, v) ? 1 : 0;
            if (group == TURN_BITS) return ~v;
            if (group != NEGATE) return v == 0 ? 1 : 0;
            if (kind >= FLOAT) return Reals.negated(kind, v);
            return kind == INT ? (int) -v : -v;
        }

        private static boolean judged(int relation, long v) {
            switch (relation) {
                case 0: return v == 0;
                case 1: return v != 0;
                case 2: return v < 0;
                case 3: return v > 0;
                case 4: return v <= 0;
                default: return v >= 0;
            }
        }

        private static long absolute(int kind, long v) {
            if (kind >= FLOAT) return Reals.sizeOf(kind, v);
            long size = v < 0 ? -v : v;
            return kind == INT ? (int) size : size;
        }
    }

    /** What is told of the latest RUN. */
    private static final class Outcome {
        int failure, part, place, done, hits, number;
        boolean grouped;
        /** Of HITS: the OBJECT, or how many; the SCORE, or the KEY; the VALUE. */
        final int[] members;
        final long[] marks, folded;

        Outcome() {
            members = new int[MOST_OBJECTS];
            marks = new long[MOST_OBJECTS];
            folded = new long[MOST_OBJECTS];
            begin(NONE, false);
        }

        void begin(int query, boolean groups) {
            failure = 0;
            part = NONE;
            place = NONE;
            done = 0;
            hits = 0;
            number = query;
            grouped = groups;
        }

        void fail(int which, int inPart, int atPlace) {
            failure = which;
            part = inPart;
            place = atPlace;
        }

        boolean has(int k) {
            return k >= 0 && k < hits && k < members.length;
        }

        void add(int member, long mark) {
            if (hits >= members.length) return;
            members[hits] = member;
            marks[hits] = mark;
            folded[hits] = 0;
            hits++;
        }

        /** Likes keep their order. */
        void sort(boolean down) {
            for (int i = 1; i < hits && i < members.length; i++) {
                int member = members[i], to = i;
                long mark = marks[i];
                while (to > 0 && Reals.compared(DOUBLE, marks[to - 1], mark) == (down ? -1 : 1)) {
                    members[to] = members[to - 1];
                    marks[to] = marks[to - 1];
                    to--;
                }
                members[to] = member;
                marks[to] = mark;
            }
        }
    }

    /** Goes through the OBJECTS of a RUN. */
    private static final class Runner {
        final Machine machine;
        final Reals reals;
        final Outcome outcome;
        /** What the PARTS answered for the OBJECT; 0 of one that isn't there. */
        final long[] answers;

        Runner(Row[] columns, Reals reals, Outcome outcome) {
            this.reals = reals;
            this.outcome = outcome;
            machine = new Machine(columns, reals);
            answers = new long[PARTS];
        }

        int go(Query query, int number, int objectCount) {
            boolean fold = query.verb == Tokens.FOLD;
            outcome.begin(number, fold);
            machine.begin(query.reals);
            if (fold && !query.has(KEY_PART)) outcome.add(0, 0);
            for (int object = 0; object < objectCount; object++) {
                visit(query, object);
                outcome.done = machine.done;
                if (outcome.failure != 0) {
                    outcome.hits = 0;
                    machine.undo();
                    return -10 - object;
                }
            }
            finish(query);
            return outcome.hits;
        }

        private void visit(Query query, int object) {
            for (int part = 0; part < PARTS; part++) {
                answers[part] = 0;
                if (!query.has(part)) continue;
                if (!machine.perform(query.parts[part], object)) {
                    outcome.fail(machine.failure, part, machine.at);
                    return;
                }
                answers[part] = machine.answer();
                if (part == WHERE_PART && answers[part] == 0) return;
            }
            if (query.verb == Tokens.FOLD) fold(query, answers[KEY_PART], answers[SUM_PART]);
            else outcome.add(object, query.verb == Tokens.FIND ? answers[SUM_PART] : 0);
        }

        private void fold(Query query, long key, long told) {
            int group = 0;
            while (group < outcome.hits && outcome.marks[group] != key) group++;
            if (group >= MOST_GROUPS) {
                outcome.fail(NO_ROOM, FOLD_ITSELF, 0);
                return;
            }
            if (group >= outcome.hits) outcome.add(0, key);
            foldInto(query, group, told);
            outcome.members[group]++;
        }

        private void foldInto(Query query, int group, long told) {
            long before = outcome.folded[group];
            boolean extreme = query.how == Tokens.MIN || query.how == Tokens.MAX;
            if (query.how == Tokens.COUNT) {
                outcome.folded[group] = before + 1;
            } else if (extreme) {
                boolean isFirst = outcome.members[group] == 0;
                outcome.folded[group] =
                    isFirst ? told : Reals.extreme(query.how == Tokens.MAX, query.kind, before, told);
            } else if (query.kind == LONG) {
                outcome.folded[group] = before + told;
            } else if (Reals.isEndless(ADD, DOUBLE, before, told)) {
                outcome.fail(ENDLESS, FOLD_ITSELF, 0);
            } else {
                outcome.folded[group] = reals.joined(ADD, DOUBLE, before, told);
            }
        }

        private void finish(Query query) {
            if (query.verb == Tokens.FIND) {
                if (query.has(SUM_PART)) outcome.sort(query.down);
                if (outcome.hits > query.first) outcome.hits = query.first;
            } else if (query.how == Tokens.MEAN) {
                divideSums();
            }
        }

        private void divideSums() {
            for (int group = 0; group < outcome.hits && group < MOST_GROUPS; group++) {
                long howMany = reals.bits(DOUBLE, (double) outcome.members[group]);
                if (outcome.members[group] > 0) {
                    outcome.folded[group] = reals.joined(DIVIDE, DOUBLE, outcome.folded[group], howMany);
                }
            }
        }
    }
}
