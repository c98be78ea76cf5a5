import java.util.Arrays;
import java.util.NoSuchElementException;

/** A language in which each expression succeeds with values one after the other, or fails. */
public final class DoorScan {

    private static final int MOST_EXPRESSIONS = 80;
    private static final int MOST_LETTERS = 60;
    private static final int VARIABLES = 8;
    private static final int PROCEDURES = 6;
    private static final int MOST_WITHIN = 30;
    private static final int MOST_ASKED = 8;
    private static final int MOST_OPEN = 150;
    private static final int MOST_STEPS = 1000;
    private static final int MOST_HANDED = 20;
    private static final int CHECKED_STEPS = 100;
    private static final int CHECKED_VALUES = 3;

    /** Bounds of the two ways' loops: steps have limits of their own, values without a step have none. */
    private static final long MOST_MOVES = 1L << 62;
    private static final long CHECKED_MOVES = 1L << 16;

    /** Kinds that have a call of their own; the letters are none of those that make and assign know. */
    private static final char NUMBER = '0';
    private static final char TEXT = '"';
    private static final char VARIABLE = 'v';
    private static final char CALL = '(';

    /** That a part is not told, or that there is no such thing. */
    private static final int NONE = -1;

    /** A value is a long: its sort in the upper half, and in the lower one a number or an index; 0 is no value. */
    private static final int IS_NUMBER = 1;
    private static final int IS_TEXT = 2;
    private static final int IS_LIFE = 3;
    private static final long LOWER = 0xFFFFFFFFL;
    private static final int LEAST_NUMBER = -2147483648;
    private static final int MOST_NUMBER = 2147483647;

    /** The row of a node, which is an expression that was begun and may be gone back into: its halves from 1 on. */
    private static final int WHAT = 1;
    private static final int PARENT = 2;
    private static final int FRAME = 3;
    /** The part that was begun last, and the one that was begun ahead of this in the same parent. */
    private static final int LATEST = 4;
    private static final int EARLIER = 5;
    private static final int X = 6;
    private static final int Y = 7;
    /** In a call: the 'S' that gave its last value. */
    private static final int WAITING = X;
    /** Which numbers are of use to the parent. */
    private static final int LOW = 8;
    private static final int HIGH = 9;
    /** Its columns behind these halves, which are values. */
    private static final int ONE = 5;
    private static final int TWO = 6;
    private static final int NODE_WIDTH = 7;

    /**
     * The rows of frames and lives, all of it in halves. The values of variables stand there as their lower halves, and
     * with their sorts, two bits each, in one half; above these, it has the depth of a frame or the body of a life.
     */
    private static final int SORTS = 1;
    private static final int SORT_BITS = 2;
    private static final int BESIDE_AT = SORT_BITS * VARIABLES;

    /** The row of a frame, which are the variables of a procedure that was called, or of a run or a life itself. */
    private static final int CALLING = 2;
    private static final int CALLER = 3;
    private static final int FIRST_VARIABLE = 4;
    private static final int FRAME_WIDTH = (FIRST_VARIABLE + VARIABLES) / 2;

    /** The row of a life, or of the run: what it is made of, and where it is once it was asked. */
    private static final int COPIED_PLACE = 2;
    private static final int PLACE = 3;
    private static final int OWN_FRAME = 4;
    private static final int ROOT = 5;
    private static final int COPIED_SUBJECT = 6;
    private static final int SUBJECT = 7;
    private static final int FIRST_COPIED = 8;
    private static final int LIFE_WIDTH = (FIRST_COPIED + VARIABLES) / 2;

    private final Program program;
    private final Machine run;
    private final Machine probe;
    private final Handing handing;
    private final char[] buffer;
    private final char[] shown;
    private final char[] compared;
    private int typed;
    private int begun;
    private int given;
    private int failed;
    private long made;

    public DoorScan() {
        program = new Program();
        run = new Machine(program, MOST_MOVES);
        probe = new Machine(program, CHECKED_MOVES);
        handing = new Handing(program);
        buffer = new char[MOST_LETTERS];
        shown = new char[MOST_LETTERS];
        compared = new char[MOST_LETTERS];
    }

    // ---- expressions

    public int type(char character) throws IllegalArgumentException, IllegalStateException {
        if (character < 32 || character > 126) {
            throw new IllegalArgumentException("no such character");
        }
        if (typed < 0 || typed >= buffer.length) {
            throw new IllegalStateException("the buffer is full");
        }
        buffer[typed] = character;
        typed++;
        return typed;
    }

    public int number(int n) throws IllegalStateException {
        requireRoom();
        return program.add(NUMBER, n, 0);
    }

    public int text() throws IllegalStateException {
        requireRoom();
        int expression = program.add(TEXT, 0, 0);
        program.setText(expression, buffer, typed);
        typed = 0;
        return expression;
    }

    public int variable(int variable) throws IllegalArgumentException, IllegalStateException {
        requireVariable(variable);
        requireRoom();
        return program.add(VARIABLE, variable, 0);
    }

    public int make(char kind, int a, int b, int c)
            throws IllegalArgumentException, IndexOutOfBoundsException, IllegalStateException {
        int least = Program.leastParts(kind);
        int most = Program.mostParts(kind);
        if (least < 0 || !isTold(a, 1, least, most) || !isTold(b, 2, least, most) || !isTold(c, 3, least, most)) {
            throw new IllegalArgumentException("no such kind, or not its parts");
        }
        requireToldPart(a);
        requireToldPart(b);
        requireToldPart(c);
        requireRoom();
        int expression = program.add(kind, 0, 0);
        if (kind == 'l') {
            // parts stand in the order in which they are begun, and l begins its b first
            program.setParts(expression, b, a, NONE);
        } else {
            program.setParts(expression, a, b, c);
        }
        return expression;
    }

    public int assign(char kind, int variable, int a)
            throws IllegalArgumentException, IndexOutOfBoundsException, IllegalStateException {
        if (kind != ':' && kind != 'u') {
            throw new IllegalArgumentException("no such assignment");
        }
        requireVariable(variable);
        requirePart(a);
        requireRoom();
        int expression = program.add(kind, variable, 0);
        program.setParts(expression, a, NONE, NONE);
        return expression;
    }

    public int exchange(char kind, int variable, int other) throws IllegalArgumentException, IllegalStateException {
        if (kind != 'x' && kind != 'y') {
            throw new IllegalArgumentException("no such exchange");
        }
        requireVariable(variable);
        requireVariable(other);
        requireRoom();
        return program.add(kind, variable, other);
    }

    public int call(int procedure, int a, int b)
            throws IllegalArgumentException, IndexOutOfBoundsException, IllegalStateException {
        requireProcedure(procedure);
        requirePart(a);
        requireToldPart(b);
        requireRoom();
        int expression = program.add(CALL, procedure, 0);
        program.setParts(expression, a, b, NONE);
        return expression;
    }

    public boolean define(int procedure, int a) throws IllegalArgumentException, IndexOutOfBoundsException {
        requireProcedure(procedure);
        requirePart(a);
        boolean had = program.bodyOf(procedure) != NONE;
        program.setBody(procedure, a);
        return had;
    }

    // ---- runs

    public int begin(int a) throws IndexOutOfBoundsException {
        requirePart(a);
        run.prepare(a);
        begun++;
        return begun;
    }

    public char next() throws IllegalStateException {
        requireRun();
        if (run.ended() != 0) {
            return run.ended();
        }
        run.allow(MOST_STEPS);
        char answer = run.ask();
        made += MOST_STEPS - run.stepsLeft();
        if (answer == 'v') {
            given++;
        } else if (answer == 'e') {
            failed++;
        }
        return answer;
    }

    public char kind() throws IllegalStateException, NoSuchElementException {
        requireValue();
        int sort = sortOf(run.last());
        return sort == IS_NUMBER ? 'n' : sort == IS_TEXT ? 't' : 'c';
    }

    public int value() throws IllegalStateException, NoSuchElementException, UnsupportedOperationException {
        requireValue();
        long number = run.texts().numberOf(run.last());
        requireNumber(number);
        return (int) number;
    }

    public int length() throws IllegalStateException, NoSuchElementException, UnsupportedOperationException {
        requireValue();
        return showLast();
    }

    public char charAt(int index) throws IllegalStateException, NoSuchElementException,
            UnsupportedOperationException, IndexOutOfBoundsException {
        requireValue();
        int length = showLast();
        if (index < 0 || index >= length || index >= shown.length) {
            throw new IndexOutOfBoundsException("no such character");
        }
        return shown[index];
    }

    public char error() throws IllegalStateException, NoSuchElementException {
        requireRun();
        if (run.problem() == 0) {
            throw new NoSuchElementException("no error");
        }
        return run.problem();
    }

    public int trace() throws IllegalStateException {
        requireRun();
        return run.chained();
    }

    public int traceAt(int index) throws IllegalStateException, IndexOutOfBoundsException {
        requireRun();
        if (index < 0 || index >= run.chained()) {
            throw new IndexOutOfBoundsException("no such place");
        }
        return run.chainAt(index);
    }

    public boolean hasVariable(int variable) throws IllegalArgumentException, IllegalStateException {
        requireVariable(variable);
        requireRun();
        return run.ownVariable(variable) != 0;
    }

    public int variableNow(int variable) throws IllegalArgumentException, IllegalStateException,
            NoSuchElementException, UnsupportedOperationException {
        requireVariable(variable);
        requireRun();
        long coded = run.ownVariable(variable);
        if (coded == 0) {
            throw new NoSuchElementException("the variable has no value");
        }
        long number = run.texts().numberOf(coded);
        requireNumber(number);
        return (int) number;
    }

    public int subjectLength() throws IllegalStateException {
        requireRun();
        return run.texts().load(run.ownSubject(), shown);
    }

    public int place() throws IllegalStateException {
        requireRun();
        return run.ownPlace();
    }

    // ---- a second way, and figures

    public int countHanded(int a, int most) throws IndexOutOfBoundsException, IllegalArgumentException {
        requirePart(a);
        if (most < 1 || most > MOST_HANDED) {
            throw new IllegalArgumentException("so many are not found");
        }
        handing.prepare(a, MOST_STEPS, MOST_MOVES);
        int count = 0;
        while (count < most && handing.ask() == 'v') {
            count++;
        }
        return count;
    }

    public int handed(int a, int index) throws IndexOutOfBoundsException, IllegalArgumentException,
            NoSuchElementException, UnsupportedOperationException {
        requirePart(a);
        if (index < 0 || index >= MOST_HANDED) {
            throw new IllegalArgumentException("so many are not found");
        }
        handing.prepare(a, MOST_STEPS, MOST_MOVES);
        for (int i = 0; i <= index; i++) {
            handing.ask();
        }
        if (handing.last() == 0) {
            throw new NoSuchElementException("no such value");
        }
        long number = handing.texts().numberOf(handing.last());
        requireNumber(number);
        return (int) number;
    }

    public int runs() {
        return begun;
    }

    public long steps() {
        return made;
    }

    public int values() {
        return given;
    }

    public float errorShare() throws ArithmeticException {
        if (begun == 0) {
            throw new ArithmeticException("no runs");
        }
        return (float) failed / (float) begun;
    }

    public double meanSteps() throws ArithmeticException {
        if (given == 0) {
            throw new ArithmeticException("no values");
        }
        return (double) made / (double) given;
    }

    public boolean isSound() {
        program.findLives();
        boolean sound = true;
        for (int expression = 0; expression < MOST_EXPRESSIONS && sound; expression++) {
            if (program.has(expression) && !program.hasLife(expression)) {
                probe.prepare(expression);
                probe.allow(CHECKED_STEPS);
                handing.prepare(expression, CHECKED_STEPS, CHECKED_MOVES);
                boolean same = true;
                for (int i = 0; i < CHECKED_VALUES; i++) {
                    same &= (probe.ask() == 'v') == (handing.ask() == 'v') && isSameLast();
                }
                sound = same || isLimit(probe.problem()) || isLimit(handing.problem());
            }
        }
        return sound;
    }

    // ---- what the calls share

    private void requireRoom() {
        if (program.isFull()) {
            throw new IllegalStateException("no room for an expression");
        }
    }

    private void requireVariable(int variable) {
        if (variable < 0 || variable >= VARIABLES) {
            throw new IllegalArgumentException("no such variable");
        }
    }

    private void requireProcedure(int procedure) {
        if (procedure < 0 || procedure >= PROCEDURES) {
            throw new IllegalArgumentException("no such procedure");
        }
    }

    private void requirePart(int a) {
        if (!program.has(a)) {
            throw new IndexOutOfBoundsException("no such expression");
        }
    }

    private void requireToldPart(int a) {
        if (a != NONE) {
            requirePart(a);
        }
    }

    private void requireRun() {
        if (begun == 0) {
            throw new IllegalStateException("no run");
        }
    }

    private void requireValue() {
        requireRun();
        if (run.last() == 0) {
            throw new NoSuchElementException("no value");
        }
    }

    private void requireNumber(long number) {
        if (number == Texts.NO_NUMBER) {
            throw new UnsupportedOperationException("no number");
        }
    }

    /** Whether the part of this number is told or left out as the kind has it. */
    private static boolean isTold(int part, int number, int least, int most) {
        return part == NONE ? number > least : number <= most;
    }

    private int showLast() {
        int length = run.texts().load(run.last(), shown);
        if (length < 0) {
            throw new UnsupportedOperationException("a life is no text");
        }
        return length;
    }

    private static long coded(int sort, int content) {
        return ((long) sort << 32) | (content & LOWER);
    }

    private static int sortOf(long coded) {
        return (int) (coded >>> 32);
    }

    private static int contentOf(long coded) {
        return (int) coded;
    }

    private static boolean isLimit(char problem) {
        return problem == 'l' || problem == 'd';
    }

    /** Whether the last values of both ways are the same; if there is none, it is the same as another one's lack. */
    private boolean isSameLast() {
        if (sortOf(probe.last()) != sortOf(handing.last())) {
            return false;
        }
        int length = probe.texts().load(probe.last(), shown);
        int other = handing.texts().load(handing.last(), compared);
        return Operations.isSame(shown, length, compared, other);
    }

    /** The expressions and the bodies of the procedures. */
    private static final class Program {
        private final char[] kinds = new char[MOST_EXPRESSIONS];
        private final int[] firsts = new int[MOST_EXPRESSIONS];
        private final int[] seconds = new int[MOST_EXPRESSIONS];
        private final int[] thirds = new int[MOST_EXPRESSIONS];
        private final int[] amounts = new int[MOST_EXPRESSIONS];
        private final int[] others = new int[MOST_EXPRESSIONS];
        private final int[] lengths = new int[MOST_EXPRESSIONS];
        private final char[] letters = new char[MOST_EXPRESSIONS * MOST_LETTERS];
        private final boolean[] alive = new boolean[MOST_EXPRESSIONS];
        private final int[] bodies = {NONE, NONE, NONE, NONE, NONE, NONE};
        private int count;

        /** How many parts the kind needs, less than 0 for a kind that make does not know. */
        static int leastParts(char kind) {
            switch (kind) {
                case 'q': case 'p': case 'n': case 'f': case 'R': case 'b':
                    return 0;
                case 'r': case '!': case 'T': case 'm': case 'P': case 'A': case 'M': case 'U': case 'F':
                case 'H': case 'S': case 'c': case '@': case '^': case 'e': case 'w':
                    return 1;
                case '|': case '&': case ';': case 't': case '+': case '-': case '*': case '/': case '.':
                case '<': case '=': case '~': case 'l': case 's': case 'i':
                    return 2;
                case '[':
                    return 3;
                default:
                    return NONE;
            }
        }

        static int mostParts(char kind) {
            switch (kind) {
                case 'R': case 'b':
                    return 1;
                case 'e': case 'w':
                    return 2;
                case 'i':
                    return 3;
                default:
                    return leastParts(kind);
            }
        }

        boolean isFull() {
            return count >= MOST_EXPRESSIONS;
        }

        boolean has(int expression) {
            return expression >= 0 && expression < count && expression < MOST_EXPRESSIONS;
        }

        int add(char kind, int amount, int other) {
            if (count < 0 || count >= MOST_EXPRESSIONS) {
                return NONE;
            }
            int expression = count;
            count++;
            kinds[expression] = kind;
            amounts[expression] = amount;
            others[expression] = other;
            setParts(expression, NONE, NONE, NONE);
            return expression;
        }

        void setParts(int expression, int first, int second, int third) {
            if (has(expression)) {
                firsts[expression] = first;
                seconds[expression] = second;
                thirds[expression] = third;
            }
        }

        void setText(int expression, char[] from, int length) {
            if (has(expression) && length >= 0 && length <= MOST_LETTERS && length <= from.length) {
                System.arraycopy(from, 0, letters, expression * MOST_LETTERS, length);
                lengths[expression] = length;
            }
        }

        char kindOf(int expression) {
            return expression >= 0 && expression < MOST_EXPRESSIONS ? kinds[expression] : 0;
        }

        int amountOf(int expression) {
            return expression >= 0 && expression < MOST_EXPRESSIONS ? amounts[expression] : 0;
        }

        int otherOf(int expression) {
            return expression >= 0 && expression < MOST_EXPRESSIONS ? others[expression] : 0;
        }

        /** The part that is begun as the first, second or third one, or NONE. */
        int partOf(int expression, int number) {
            if (expression < 0 || expression >= MOST_EXPRESSIONS) {
                return NONE;
            }
            return number == 1 ? firsts[expression] : number == 2 ? seconds[expression] : thirds[expression];
        }

        int bodyOf(int procedure) {
            return procedure >= 0 && procedure < bodies.length ? bodies[procedure] : NONE;
        }

        void setBody(int procedure, int expression) {
            if (procedure >= 0 && procedure < bodies.length) {
                bodies[procedure] = expression;
            }
        }

        /** Finds which expressions have a life in them, or call a procedure that has. */
        void findLives() {
            for (int i = 0; i < MOST_EXPRESSIONS; i++) {
                alive[i] = false;
            }
            // a body may be a later expression: each round reaches at least one procedure further
            for (int round = 0; round <= PROCEDURES + 1; round++) {
                for (int i = 0; i < count && i < MOST_EXPRESSIONS; i++) {
                    alive[i] = kinds[i] == 'c' || hasLife(firsts[i]) || hasLife(seconds[i]) || hasLife(thirds[i])
                            || kinds[i] == CALL && hasLife(bodyOf(amounts[i]));
                }
            }
        }

        boolean hasLife(int expression) {
            return has(expression) && alive[expression];
        }
    }

    /** Rows of longs, all of one width, that are used again; they stand in blocks, which are never copied. */
    private static final class Rows {
        private static final int IN_A_BLOCK = 128;
        private static final int BLOCKS_AT_FIRST = 8;
        /** Each step takes a row of each sort at most, so that no run needs so many. */
        private static final int MOST_BLOCKS = 1 << 13;
        /** The first half of each row: 0, or that it is kept, and which one was reached ahead of it. */
        private static final int LINK = 0;
        private static final int END = -1;
        /** The second half of a spare row: the next one. */
        private static final int NEXT = 1;
        private static final int HALF = 32;

        private final int width;
        private long[][] blocks = new long[BLOCKS_AT_FIRST][];
        /** The row 0 is none. */
        private int fresh = 1;
        private int spare;
        private int taken;
        private int limit = IN_A_BLOCK;
        private int reached = END;

        Rows(int width) {
            this.width = width;
        }

        void clear() {
            fresh = 1;
            spare = 0;
            taken = 0;
            limit = IN_A_BLOCK;
            reached = END;
        }

        int taken() {
            return taken;
        }

        /** Whether it is time to look for rows that can be used again. */
        boolean isTight() {
            return taken >= limit;
        }

        boolean has(int row) {
            return row > 0 && row < fresh;
        }

        /** A row of zeros; 0 if there are no more, to which no run comes. */
        int take() {
            int row = spare > 0 ? spare : fresh;
            int number = row / IN_A_BLOCK;
            if (row <= 0 || number >= MOST_BLOCKS) {
                return 0;
            }
            if (number >= blocks.length) {
                long[][] more = new long[2 * number][];
                for (int i = 0; i < blocks.length && i < more.length; i++) {
                    more[i] = blocks[i];
                }
                blocks = more;
            }
            if (blocks[number] == null) {
                blocks[number] = new long[IN_A_BLOCK * width];
            }
            long[] block = blocks[number];
            int first = row % IN_A_BLOCK * width;
            if (spare > 0) {
                spare = (int) (block[first] >>> HALF);
            } else {
                fresh++;
            }
            for (int i = first; i < first + width && i < block.length; i++) {
                block[i] = 0;
            }
            taken++;
            return row;
        }

        long whole(int row, int column) {
            if (row <= 0 || row >= fresh || column < 0 || column >= width) {
                return 0;
            }
            long[] block = blocks[row / IN_A_BLOCK];
            return block == null ? 0 : block[row % IN_A_BLOCK * width + column];
        }

        void setWhole(int row, int column, long value) {
            if (row <= 0 || row >= fresh || column < 0 || column >= width) {
                return;
            }
            long[] block = blocks[row / IN_A_BLOCK];
            if (block != null) {
                block[row % IN_A_BLOCK * width + column] = value;
            }
        }

        /** An int that is half of a long: the halves 0 and 1 are those of column 0, from the lower one on. */
        int half(int row, int half) {
            if (row <= 0 || row >= fresh || half < 0 || half >= 2 * width) {
                return 0;
            }
            long[] block = blocks[row / IN_A_BLOCK];
            return block == null ? 0 : (int) (block[row % IN_A_BLOCK * width + half / 2] >>> half % 2 * HALF);
        }

        void setHalf(int row, int half, int value) {
            if (row <= 0 || row >= fresh || half < 0 || half >= 2 * width) {
                return;
            }
            long[] block = blocks[row / IN_A_BLOCK];
            if (block != null) {
                int at = row % IN_A_BLOCK * width + half / 2;
                int shift = half % 2 * HALF;
                block[at] = block[at] & ~(LOWER << shift) | (value & LOWER) << shift;
            }
        }

        /** Keeps the row from being spare; answers whether it was not kept before. */
        boolean reach(int row) {
            long[] block = row > 0 && row < fresh ? blocks[row / IN_A_BLOCK] : null;
            int first = row % IN_A_BLOCK * width;
            if (block == null || (int) block[first] != 0) {
                return false;
            }
            block[first] |= reached & LOWER;
            reached = row;
            return true;
        }

        /** The row that was reached last and not answered here before, or 0. */
        int follow() {
            int row = reached;
            if (row <= 0) {
                return 0;
            }
            reached = half(row, LINK);
            return row;
        }

        /** Makes the rows spare that were not reached. */
        void sweep() {
            spare = 0;
            taken = 0;
            reached = END;
            for (int row = fresh - 1; row > 0; row--) {
                if (half(row, LINK) == 0) {
                    setHalf(row, NEXT, spare);
                    spare = row;
                } else {
                    setHalf(row, LINK, 0);
                    taken++;
                }
            }
            limit = taken + Math.max(IN_A_BLOCK, taken / 2);
        }

        /** Lets so many more be taken at least, ahead of the next time that is looked for spare ones. */
        void allow(int more) {
            limit = Math.max(limit, taken + more);
        }
    }

    /** The texts that a way of finding values has made, and how values are read as texts and numbers. */
    private static final class Texts {
        static final long NO_NUMBER = 1L << 63;
        /** A text without letters: contents below 0 are texts of the program, and this one is of no expression. */
        static final long EMPTY = ((long) IS_TEXT << 32) | ((-1 - MOST_EXPRESSIONS) & LOWER);
        private static final int DIGITS = 9;
        /** A row has the length in its second half, and behind that the letters, which are packed, nine in a long. */
        private static final int LENGTH = 1;
        private static final int IN_A_LONG = 9;
        private static final int BITS = 7;
        private static final long LETTER = (1L << BITS) - 1;
        private static final int WIDTH = 1 + (MOST_LETTERS + IN_A_LONG - 1) / IN_A_LONG;

        private final Program program;
        private final char[] read = new char[MOST_LETTERS];
        private final Rows rows;

        Texts(Program program) {
            this.program = program;
            rows = new Rows(WIDTH);
        }

        void clear() {
            rows.clear();
        }

        boolean isTight() {
            return rows.isTight();
        }

        /** Keeps the characters as a text. */
        long keep(char[] from, int start, int length) {
            if (start < 0 || length <= 0 || length > MOST_LETTERS || start > from.length - length) {
                return EMPTY;
            }
            int row = rows.take();
            if (row == 0) {
                return EMPTY;
            }
            rows.setHalf(row, LENGTH, length);
            long packed = 0;
            for (int i = length - 1; i >= 0; i--) {
                packed = packed << BITS | from[start + i];
                if (i % IN_A_LONG == 0) {
                    rows.setWhole(row, 1 + i / IN_A_LONG, packed);
                    packed = 0;
                }
            }
            return ((long) IS_TEXT << 32) | row;
        }

        void mark(long coded) {
            int content = (int) coded;
            if (coded >>> 32 == IS_TEXT && content > 0) {
                rows.reach(content);
            }
        }

        /** Makes the texts spare that are not marked; so many may come besides before the next time. */
        void sweep(int more) {
            rows.sweep();
            rows.allow(more);
        }

        /** Puts the value's text into the row, and answers its length, or less than 0 for what is no text. */
        int load(long coded, char[] into) {
            switch (sortOf(coded)) {
                case IS_NUMBER:
                    return write(contentOf(coded), into);
                case IS_TEXT:
                    return copy(contentOf(coded), into);
                default:
                    return NONE;
            }
        }

        private int copy(int content, char[] into) {
            int expression = -1 - content;
            if (into.length < MOST_LETTERS || content >= rows.fresh || expression >= MOST_EXPRESSIONS) {
                return 0;
            }
            if (content < 0) {
                System.arraycopy(program.letters, expression * MOST_LETTERS, into, 0, program.lengths[expression]);
                return program.lengths[expression];
            }
            // the row is read without its own calls, as this is asked for at the greatest depth of calls
            long[] block = rows.blocks[content / Rows.IN_A_BLOCK];
            int first = content % Rows.IN_A_BLOCK * WIDTH;
            int length = block == null ? 0 : (int) (block[first] >>> Rows.HALF);
            for (int i = 0; i < length && i < MOST_LETTERS; i++) {
                into[i] = (char) (block[first + 1 + i / IN_A_LONG] >>> i % IN_A_LONG * BITS & LETTER);
            }
            return length;
        }

        private static int write(int number, char[] into) {
            if (into.length < MOST_LETTERS) {
                return 0;
            }
            long rest = number < 0 ? -(long) number : number;
            int length = number < 0 ? 1 : 0;
            for (long power = rest; power >= 10; power /= 10) {
                length++;
            }
            length++;
            for (int i = length - 1; i >= 0; i--) {
                into[i] = (char) ('0' + rest % 10);
                rest /= 10;
            }
            if (number < 0) {
                into[0] = '-';
            }
            return length;
        }

        /** The value as a number, or NO_NUMBER. */
        long numberOf(long coded) {
            long sort = coded >>> 32;
            if (sort == IS_NUMBER) {
                return (int) coded;
            }
            if (sort != IS_TEXT) {
                return NO_NUMBER;
            }
            return readDigits(copy((int) coded, read), DIGITS, read);
        }

        /** The number that is written in a row, with so many digits at most, or NO_NUMBER. */
        static long readDigits(int length, int most, char[] from) {
            int start = length > 0 && from.length > 0 && from[0] == '-' ? 1 : 0;
            if (length <= start || length - start > most) {
                return NO_NUMBER;
            }
            long number = 0;
            for (int i = start; i < length && i < from.length; i++) {
                if (from[i] < '0' || from[i] > '9') {
                    return NO_NUMBER;
                }
                number = number * 10 + (from[i] - '0');
            }
            return start == 1 ? -number : number;
        }
    }

    /** What the kinds do with values; each answer is 'v' with a result, 'f' without one, or an error. */
    private static final class Operations {
        private final Texts texts;
        private final char[] left = new char[MOST_LETTERS];
        private final char[] right = new char[MOST_LETTERS];
        private final char[] joined = new char[2 * MOST_LETTERS];
        private long result;
        private int low;
        private int high;
        private boolean isTraced;

        Operations(Texts texts) {
            this.texts = texts;
        }

        long result() {
            return result;
        }

        /** The kinds with one value at most for a value of each part: the first, for '[' a second, and the last. */
        char work(char kind, long first, long second, long last) {
            if (kind == '.' || kind == '~') {
                return join(kind, first, last);
            }
            if (kind == '[') {
                return slice(first, second, last);
            }
            long one = texts.numberOf(first);
            long other = texts.numberOf(last);
            if (one == Texts.NO_NUMBER || other == Texts.NO_NUMBER) {
                return 'f';
            }
            return calculate(kind, one, other);
        }

        private char calculate(char kind, long one, long other) {
            long answer = other;
            switch (kind) {
                case '+':
                    answer = one + other;
                    break;
                case '-':
                    answer = one - other;
                    break;
                case '*':
                    answer = one * other;
                    break;
                case '/':
                    if (other == 0) {
                        return 'z';
                    }
                    answer = one / other;
                    break;
                case '<':
                    if (one >= other) {
                        return 'f';
                    }
                    break;
                default:
                    if (one != other) {
                        return 'f';
                    }
                    break;
            }
            result = coded(IS_NUMBER, (int) answer);
            return 'v';
        }

        // ---- what numbers are of use to the expression around the one that gives them

        int low() {
            return low;
        }

        int high() {
            return high;
        }

        /** Whether the last one of numbers that are of no use leaves a trace, so that it has to be given. */
        boolean isTraced() {
            return isTraced;
        }

        void expectAll() {
            expect(LEAST_NUMBER, MOST_NUMBER, false);
        }

        private void expectNone() {
            expect(MOST_NUMBER, LEAST_NUMBER, false);
        }

        private void expect(long least, long most, boolean traced) {
            long from = Math.max(least, LEAST_NUMBER);
            long to = Math.min(most, MOST_NUMBER);
            low = from <= to ? (int) from : MOST_NUMBER;
            high = from <= to ? (int) to : LEAST_NUMBER;
            isTraced = traced;
        }

        /**
         * Finds which numbers of a part are of use, if those from least to most are of the expression itself: behind
         * any other one the part is gone back into at once, without a step, an error or a change but the last's trace.
         */
        void expectOf(int expression, int part, long one, int least, int most, boolean traced) {
            char kind = texts.program.kindOf(expression);
            expectAll();
            switch (kind) {
                case '|': case 'u': case 'S':
                    expect(least, most, traced);
                    break;
                case ':': case 'r':
                    expect(least, most, true);
                    break;
                case '&': case ';': case 'i': case 's':
                    if (part > 1) {
                        expect(least, most, traced);
                    }
                    break;
                case 'e': case 'w':
                    if (part == 3) {
                        expect(least, most, traced);
                    } else if (kind == 'e' && part == 1 && texts.program.partOf(expression, 2) == NONE) {
                        expectNone();
                    }
                    break;
                case 'T': case 'm': case 'P': case '[':
                    if (kind != '[' || part == 3) {
                        expect(-MOST_LETTERS - 1, MOST_LETTERS + 1, false);
                    }
                    break;
                case 'l':
                    if (part == 1) {
                        expect(1, MOST_NUMBER, false);
                    }
                    break;
                case '+': case '-': case '<': case '=': case 't': case '~':
                    if (part == 2) {
                        expectSecond(kind, one, least, most, traced);
                    }
                    break;
                default:
                    break;
            }
        }

        /** Of the second part of a kind that uses it with each value of the first one. */
        private void expectSecond(char kind, long first, int least, int most, boolean traced) {
            // the text of an int has a digit more than a text may have that is used as a number
            long one = kind == '~' ? Texts.readDigits(texts.load(first, left), Texts.DIGITS + 1, left)
                    : texts.numberOf(first);
            if (one == Texts.NO_NUMBER) {
                expectNone();
            } else if (kind == '~') {
                expect(one, one, false);
            } else if (kind == '+') {
                expectMoved(least - one, most - one, traced);
            } else if (kind == '-') {
                expectMoved(one - most, one - least, traced);
            } else {
                // what the expression has given leaves the trace, even if it is of no use
                long from = kind == '<' ? one + 1 : one;
                long to = kind == '=' ? one : MOST_NUMBER;
                if (!traced) {
                    from = Math.max(from, least);
                    to = kind == 't' && from <= most ? to : Math.min(to, most);
                }
                expect(from, to, false);
            }
        }

        /** Of a sum or a difference, which wraps around. */
        private void expectMoved(long from, long to, boolean traced) {
            long turn = to < LEAST_NUMBER ? LOWER + 1 : from > MOST_NUMBER ? -LOWER - 1 : 0;
            if (from > to || from + turn >= LEAST_NUMBER && to + turn <= MOST_NUMBER) {
                expect(from + turn, to + turn, traced);
            }
        }

        /** The next number from this one on that a 't' gives, or one that is more than its last. */
        static long counted(long from, long last, int least, int most, boolean traced) {
            if (from > last || from >= least && from <= most) {
                return from;
            }
            if (from < least && least <= most) {
                return traced ? Math.min(least - 1L, last) : least;
            }
            return traced ? last : last + 1;
        }

        // ---- texts

        /** '.' and '~'. */
        private char join(char kind, long a, long b) {
            int length = texts.load(a, left);
            int more = texts.load(b, right);
            if (length < 0 || more < 0) {
                return 'f';
            }
            if (kind == '~') {
                if (!isSame(left, length, right, more)) {
                    return 'f';
                }
                result = b >>> 32 == IS_TEXT ? b : texts.keep(right, 0, more);
                return 'v';
            }
            if (length + more > MOST_LETTERS) {
                return 'o';
            }
            System.arraycopy(left, 0, joined, 0, length);
            System.arraycopy(right, 0, joined, length, more);
            result = texts.keep(joined, 0, length + more);
            return 'v';
        }

        static boolean isSame(char[] one, int length, char[] other, int otherLength) {
            if (length != otherLength || length > one.length || length > other.length) {
                return false;
            }
            for (int i = 0; i < length; i++) {
                if (one[i] != other[i]) {
                    return false;
                }
            }
            return true;
        }

        /** The text of a between two places of it. */
        private char slice(long a, long b, long c) {
            int length = texts.load(a, left);
            int from = toldPlace(texts.numberOf(b), length);
            int to = toldPlace(texts.numberOf(c), length);
            if (length < 0 || from == 0 || to == 0) {
                return 'f';
            }
            result = texts.keep(left, Math.min(from, to) - 1, Math.abs(to - from));
            return 'v';
        }

        /** The value as a text, for a new subject. */
        char asText(long a) {
            if (sortOf(a) == IS_TEXT) {
                result = a;
                return 'v';
            }
            int length = texts.load(a, left);
            if (length < 0) {
                return 'f';
            }
            result = texts.keep(left, 0, length);
            return 'v';
        }

        /** The place that is told from either end of a text of this length, or 0. */
        private static int toldPlace(long told, int length) {
            return told == Texts.NO_NUMBER ? 0 : reached(told > 0 ? told : length + 1 + told, length);
        }

        private static int reached(long place, int length) {
            return place >= 1 && place <= length + 1 ? (int) place : 0;
        }

        /** The place that 'T' or 'm' goes to, or 0. */
        int goal(char kind, long a, long subject, int place) {
            long told = texts.numberOf(a);
            int length = texts.load(subject, right);
            if (kind == 'T' || told == Texts.NO_NUMBER) {
                return toldPlace(told, length);
            }
            return reached(place + told, length);
        }

        /** The text of the subject between two places. */
        long between(long subject, int from, int to) {
            int length = texts.load(subject, right);
            if (from < 1 || to < 1 || from > length + 1 || to > length + 1) {
                return Texts.EMPTY;
            }
            return texts.keep(right, Math.min(from, to) - 1, Math.abs(to - from));
        }

        /** The place that 'P', 'A', 'M' or 'H' gives, or 0. */
        int match(char kind, long a, long subject, int place) {
            int length = texts.load(subject, right);
            if (kind == 'P') {
                return toldPlace(texts.numberOf(a), length) == place ? place : 0;
            }
            int size = texts.load(a, left);
            if (size < 0) {
                return 0;
            }
            if (kind == 'H') {
                return begins(size, length, place) ? place + size : 0;
            }
            int behind = place;
            int most = kind == 'A' ? place + 1 : length + 1;
            while (behind < most && behind <= length && holds(size, behind)) {
                behind++;
            }
            return behind > place ? behind : 0;
        }

        /** The next place that 'U' or 'F' gives, from this one on, but for those that are bits of a long; or 0. */
        int seek(char kind, long a, long subject, int from, long without) {
            int length = texts.load(subject, right);
            int size = texts.load(a, left);
            if (size < 0 || from < 1) {
                return 0;
            }
            for (int place = from; place <= length + 1; place++) {
                boolean isFound = kind == 'F' ? begins(size, length, place) : place <= length && holds(size, place);
                if (isFound && (without >>> place & 1) == 0) {
                    return place;
                }
            }
            return 0;
        }

        /** Whether the text on the left has the character of the subject, which is on the right. */
        private boolean holds(int size, int place) {
            if (place < 1 || place > right.length) {
                return false;
            }
            for (int i = 0; i < size && i < left.length; i++) {
                if (left[i] == right[place - 1]) {
                    return true;
                }
            }
            return false;
        }

        private boolean begins(int size, int length, int place) {
            if (place < 1 || size > left.length || length > right.length || size > length + 1 - place) {
                return false;
            }
            for (int i = 0; i < size; i++) {
                if (left[i] != right[place - 1 + i]) {
                    return false;
                }
            }
            return true;
        }
    }

    /**
     * The numbers that a 't', 'U' or 'F' has given in vain: behind them nothing was begun, no value came of them, and
     * nothing was changed that stays. Until the next event, which is a step or a value, they would come to the same
     * again if the place is the same, as nothing else that is looked at changes between two events.
     *
     * Those that have notes since the latest event and may be given more are parts of one another, as without a step
     * no second part is begun; so no two of them are the same expression within as many procedures. Each such slot has
     * one row, which the next one there takes over.
     */
    private static final class Vain {
        /** The columns of a row: since which event it is whose, and for each place what was given there. */
        private static final int WHOSE = 0;
        private static final int WIDTH = 1 + MOST_LETTERS + 1;
        /** The sign makes a moment a value of no sort. */
        private static final long MOMENT = 1L << 63;
        private static final int HALF = 32;

        /** For so many procedures the rows of all expressions, made as the first one is noted. */
        private final long[][] rows = new long[MOST_WITHIN + 1][];
        private long events;
        private long changes;

        static int slotOf(int depth, int expression) {
            return depth * MOST_EXPRESSIONS + expression;
        }

        /** A step was made, or the run or a life has given a value: all is forgotten. */
        void event() {
            events++;
            changes++;
        }

        /** A ':' has set its variable, or an 'l' has counted a value. */
        void change() {
            changes++;
        }

        /** The moment, to be told again to isInVain behind what is given now. */
        long now() {
            return MOMENT | changes;
        }

        boolean isInVain(long givenAt) {
            return givenAt == (MOMENT | changes);
        }

        /** The first number of a 't' from this one on that it has not given in vain at this place. */
        long firstOf(int slot, int giver, int place, long from) {
            long highest = noted(slot, giver, place);
            return highest == 0 ? from : Math.max(from, (int) highest + 1L);
        }

        /** A 't' has given its numbers up to this one in vain; another time they all begin with the same one. */
        void endRow(int slot, int giver, int place, int last) {
            long highest = noted(slot, giver, place);
            if (highest == 0 || (int) highest < last) {
                note(slot, giver, place, coded(IS_NUMBER, last));
            }
        }

        /** The places that a 'U' or 'F' has given in vain at this place, as bits. */
        long found(int slot, int giver, int place) {
            return noted(slot, giver, place);
        }

        void endFound(int slot, int giver, int place, int last) {
            note(slot, giver, place, noted(slot, giver, place) | 1L << last);
        }

        private long noted(int slot, int giver, int place) {
            long[] block = slot >= 0 && slot / MOST_EXPRESSIONS < rows.length ? rows[slot / MOST_EXPRESSIONS] : null;
            int first = slot % MOST_EXPRESSIONS * WIDTH;
            if (block == null || place < 1 || place >= WIDTH || block[first + WHOSE] != (events << HALF | giver)) {
                return 0;
            }
            return block[first + place];
        }

        private void note(int slot, int giver, int place, long what) {
            if (slot < 0 || slot / MOST_EXPRESSIONS >= rows.length || place < 1 || place >= WIDTH) {
                return;
            }
            long[] block = rows[slot / MOST_EXPRESSIONS];
            if (block == null) {
                block = new long[MOST_EXPRESSIONS * WIDTH];
                rows[slot / MOST_EXPRESSIONS] = block;
            }
            int first = slot % MOST_EXPRESSIONS * WIDTH;
            if (block[first + WHOSE] != (events << HALF | giver)) {
                Arrays.fill(block, first, first + WIDTH, 0);
                block[first + WHOSE] = events << HALF | giver;
            }
            block[first + place] = what;
        }
    }

    /** What a run and its lives have begun, in rows that are used again when nothing reaches them any more. */
    private static final class Heap {
        /** How many rows that are kept pay for one that may be taken ahead of the next collecting. */
        private static final int KEPT_FOR_ONE = 16;
        private static final int MOST_FOLLOWED = 1 << 30;
        private static final int EXPRESSION_BITS = 8;
        private static final int PART_BITS = 2;
        private static final int TRACED = 1 << EXPRESSION_BITS + PART_BITS;
        private static final int KIND_AT = 16;

        private final Rows nodes;
        private final Rows frames;
        private final Rows lives;
        private final Texts texts;

        Heap(Texts texts) {
            nodes = new Rows(NODE_WIDTH);
            frames = new Rows(FRAME_WIDTH);
            lives = new Rows(LIFE_WIDTH);
            this.texts = texts;
        }

        void clear() {
            nodes.clear();
            frames.clear();
            lives.clear();
        }

        boolean isTight() {
            return nodes.isTight() || frames.isTight() || lives.isTight() || texts.isTight();
        }

        // ---- nodes

        /** Takes a node, which is then the latest part of its parent. */
        int takeNode(int expression, char kind, int parent, int part, int frame) {
            int node = nodes.take();
            nodes.setHalf(node, WHAT, kind << KIND_AT | part << EXPRESSION_BITS | expression);
            nodes.setHalf(node, PARENT, parent);
            nodes.setHalf(node, FRAME, frame);
            nodes.setHalf(node, EARLIER, nodes.half(parent, LATEST));
            nodes.setHalf(parent, LATEST, node);
            return node;
        }

        char kindOf(int node) {
            return (char) (nodes.half(node, WHAT) >>> KIND_AT);
        }

        int expressionOf(int node) {
            return nodes.half(node, WHAT) & (1 << EXPRESSION_BITS) - 1;
        }

        int partOf(int node) {
            return nodes.half(node, WHAT) >>> EXPRESSION_BITS & (1 << PART_BITS) - 1;
        }

        boolean isTraced(int node) {
            return (nodes.half(node, WHAT) & TRACED) != 0;
        }

        /** Where it is noted what the node has given in vain. */
        int slotOf(int node) {
            int expression = nodes.half(node, WHAT) & (1 << EXPRESSION_BITS) - 1;
            return Vain.slotOf(frames.half(nodes.half(node, FRAME), SORTS) >>> BESIDE_AT, expression);
        }

        void expect(int node, int low, int high, boolean traced) {
            nodes.setHalf(node, LOW, low);
            nodes.setHalf(node, HIGH, high);
            nodes.setHalf(node, WHAT, nodes.half(node, WHAT) | (traced ? TRACED : 0));
        }

        /** Leaves the part that was begun last. */
        void dropLatest(int node) {
            nodes.setHalf(node, LATEST, nodes.half(nodes.half(node, LATEST), EARLIER));
        }

        // ---- frames and lives

        int takeFrame(int call, int caller) {
            int frame = frames.take();
            frames.setHalf(frame, CALLING, call);
            frames.setHalf(frame, CALLER, caller);
            frames.setHalf(frame, SORTS, caller == 0 ? 0 : depthOf(caller) + 1 << BESIDE_AT);
            return frame;
        }

        /** Within how many procedures the frame is. */
        int depthOf(int frame) {
            return frames.half(frame, SORTS) >>> BESIDE_AT;
        }

        long variableOf(int frame, int variable) {
            return valueIn(frames, frame, FIRST_VARIABLE, variable);
        }

        void setVariable(int frame, int variable, long coded) {
            setValueIn(frames, frame, FIRST_VARIABLE, variable, coded);
        }

        /** Takes a life, for which the variables are still to be copied. */
        int takeLife(int expression, long subject, int place) {
            int life = lives.take();
            lives.setHalf(life, SORTS, expression << BESIDE_AT);
            lives.setHalf(life, COPIED_SUBJECT, (int) subject);
            lives.setHalf(life, COPIED_PLACE, place);
            lives.setHalf(life, SUBJECT, (int) subject);
            lives.setHalf(life, PLACE, place);
            return life;
        }

        int bodyOf(int life) {
            return lives.half(life, SORTS) >>> BESIDE_AT;
        }

        /** The subject of the life, or the one that it was made with. */
        long subjectOf(int life, int which) {
            return coded(IS_TEXT, lives.half(life, which));
        }

        long copiedOf(int life, int variable) {
            return valueIn(lives, life, FIRST_COPIED, variable);
        }

        void setCopied(int life, int variable, long coded) {
            setValueIn(lives, life, FIRST_COPIED, variable, coded);
        }

        private static long valueIn(Rows rows, int row, int first, int variable) {
            int sort = rows.half(row, SORTS) >>> SORT_BITS * variable & (1 << SORT_BITS) - 1;
            return coded(sort, rows.half(row, first + variable));
        }

        private static void setValueIn(Rows rows, int row, int first, int variable, long coded) {
            int shift = SORT_BITS * variable;
            int others = rows.half(row, SORTS) & ~((1 << SORT_BITS) - 1 << shift);
            rows.setHalf(row, SORTS, others | (int) (coded >>> 32) << shift);
            rows.setHalf(row, first + variable, (int) coded);
        }

        /** The life that the value is, or 0. */
        int lifeOf(long coded) {
            int life = (int) coded;
            return coded >>> 32 == IS_LIFE && lives.has(life) ? life : 0;
        }

        // ---- collecting

        void reachNode(int node) {
            nodes.reach(node);
        }

        void reachLife(int life) {
            lives.reach(life);
        }

        void reachValue(long coded) {
            if (coded >>> 32 == IS_LIFE) {
                lives.reach((int) coded);
            } else {
                texts.mark(coded);
            }
        }

        private void reachFrame(int frame) {
            if (frames.reach(frame)) {
                for (int i = 0; i < VARIABLES; i++) {
                    reachValue(variableOf(frame, i));
                }
            }
        }

        /** Keeps what can be reached from what was reached so far, and makes all else spare. */
        void collect() {
            boolean isDone = false;
            for (int i = 0; i < MOST_FOLLOWED && !isDone; i++) {
                int node = nodes.follow();
                int life = lives.follow();
                followNode(node);
                followLife(life);
                isDone = node == 0 && life == 0;
            }
            nodes.sweep();
            frames.sweep();
            lives.sweep();
            int more = (nodes.taken() + frames.taken() + lives.taken()) / KEPT_FOR_ONE;
            frames.allow(more);
            lives.allow(more);
            texts.sweep(more);
        }

        private void followNode(int node) {
            if (node == 0) {
                return;
            }
            nodes.reach(nodes.half(node, PARENT));
            nodes.reach(nodes.half(node, LATEST));
            nodes.reach(nodes.half(node, EARLIER));
            if (kindOf(node) == CALL) {
                nodes.reach(nodes.half(node, WAITING));
            }
            reachFrame(nodes.half(node, FRAME));
            reachValue(nodes.whole(node, ONE));
            reachValue(nodes.whole(node, TWO));
        }

        private void followLife(int life) {
            if (life == 0) {
                return;
            }
            nodes.reach(lives.half(life, ROOT));
            reachFrame(lives.half(life, OWN_FRAME));
            reachValue(subjectOf(life, SUBJECT));
            reachValue(subjectOf(life, COPIED_SUBJECT));
            for (int i = 0; i < VARIABLES; i++) {
                reachValue(copiedOf(life, i));
            }
        }
    }

    /** The first way: a tree of what is begun, in which the latest place is gone back to. */
    private static final class Machine {
        private static final int START = 0;
        private static final int BACK = 1;
        private static final int GIVE = 2;
        private static final int FAIL = 3;
        /** A place for the error, and in the run and each life that is asked the calls and the '@'. */
        private static final int MOST_CHAINED = 1 + (MOST_ASKED + 1) * (MOST_WITHIN + 1);
        /** A bound of how many expressions are around one, which no tree comes to. */
        private static final int MOST_AROUND = 1 << 20;

        private final Program program;
        private final Texts texts;
        private final Operations operations;
        private final Heap heap;
        private final Vain vain;
        private final Rows nodes;
        private final Rows frames;
        private final Rows lives;
        /** The run, which is a life, and each life that is asked within it; and the '@' that ask them. */
        private final int[] asked = new int[MOST_ASKED + 1];
        private final int[] askers = new int[MOST_ASKED + 1];
        private final int[] chain = new int[MOST_CHAINED];
        private final long mostMoves;
        private int level;
        private int move;
        private int at;
        private long given;
        private char outcome;
        private char problem;
        private int chained;
        private int stepsLeft;

        Machine(Program program, long mostMoves) {
            this.program = program;
            this.mostMoves = mostMoves;
            texts = new Texts(program);
            operations = new Operations(texts);
            heap = new Heap(texts);
            vain = new Vain();
            nodes = heap.nodes;
            frames = heap.frames;
            lives = heap.lives;
        }

        void prepare(int expression) {
            heap.clear();
            texts.clear();
            level = 0;
            asked[0] = heap.takeLife(expression, Texts.EMPTY, 1);
            askers[0] = 0;
            at = 0;
            given = 0;
            outcome = 0;
            problem = 0;
            chained = 0;
            stepsLeft = 0;
        }

        void allow(int steps) {
            stepsLeft = steps;
        }

        int stepsLeft() {
            return stepsLeft;
        }

        Texts texts() {
            return texts;
        }

        /** The last value, or 0 if there is none. */
        long last() {
            return given;
        }

        /** 'f' or 'e', behind which there are no more values; or 0. */
        char ended() {
            return outcome == 'v' ? 0 : outcome;
        }

        char problem() {
            return problem;
        }

        int chained() {
            return chained;
        }

        int chainAt(int index) {
            return index >= 0 && index < chain.length ? chain[index] : NONE;
        }

        long ownVariable(int variable) {
            return heap.variableOf(lives.half(asked[0], OWN_FRAME), variable);
        }

        long ownSubject() {
            return heap.subjectOf(asked[0], SUBJECT);
        }

        int ownPlace() {
            return lives.half(asked[0], PLACE);
        }

        char ask() {
            if (outcome == 'f' || outcome == 'e') {
                return outcome;
            }
            outcome = 0;
            given = 0;
            enter();
            for (long moves = 0; moves < mostMoves && outcome == 0; moves++) {
                if (heap.isTight()) {
                    reachAll();
                    heap.collect();
                }
                int node = at;
                if (move == START) {
                    start(node);
                } else if (move == BACK) {
                    goBack(node);
                } else if (move == GIVE) {
                    take(parentOf(node), heap.partOf(node), given);
                } else {
                    lose(parentOf(node));
                }
            }
            if (outcome == 0) {
                stop('l', at);
            }
            if (outcome != 'v') {
                given = 0;
            }
            return outcome;
        }

        private void reachAll() {
            for (int i = 0; i <= level && i < asked.length; i++) {
                heap.reachLife(asked[i]);
            }
            heap.reachNode(at);
            heap.reachValue(given);
        }

        // ---- what there is of a node and of the life that is asked now

        private int parentOf(int node) {
            return nodes.half(node, PARENT);
        }

        /** The call of the procedure that the node is in, or 0. */
        private int callOf(int node) {
            return frames.half(nodes.half(node, FRAME), CALLING);
        }

        private int expressionOf(int node) {
            return heap.expressionOf(node);
        }

        private int amountOf(int node) {
            return program.amountOf(heap.expressionOf(node));
        }

        private boolean isTold(int node, int part) {
            return program.partOf(heap.expressionOf(node), part) != NONE;
        }

        private long variableOf(int node, int variable) {
            return heap.variableOf(nodes.half(node, FRAME), variable);
        }

        private void setVariable(int node, int variable, long coded) {
            heap.setVariable(nodes.half(node, FRAME), variable, coded);
        }

        private int lifeNow() {
            return level >= 0 && level < asked.length ? asked[level] : 0;
        }

        private long subjectNow() {
            return heap.subjectOf(lifeNow(), SUBJECT);
        }

        private int placeNow() {
            return lives.half(lifeNow(), PLACE);
        }

        private void moveTo(int place) {
            lives.setHalf(lifeNow(), PLACE, place);
        }

        private void scanFrom(long subject, int place) {
            lives.setHalf(lifeNow(), SUBJECT, (int) subject);
            lives.setHalf(lifeNow(), PLACE, place);
        }

        // ---- where the machine goes next

        private void give(int node, long coded) {
            move = GIVE;
            at = node;
            given = coded;
        }

        private void giveNumber(int node, int number) {
            give(node, coded(IS_NUMBER, number));
        }

        private void fail(int node) {
            move = FAIL;
            at = node;
        }

        /** Goes back into the part that was begun last, if there is one. */
        private void retreat(int node) {
            int part = nodes.half(node, LATEST);
            move = part == 0 ? FAIL : BACK;
            at = part == 0 ? node : part;
        }

        private void open(int node, int part) {
            openIn(node, part, program.partOf(expressionOf(node), part), nodes.half(node, FRAME));
        }

        private void openIn(int node, int part, int expression, int frame) {
            move = START;
            at = heap.takeNode(expression, program.kindOf(expression), node, part, frame);
        }

        private void dropParts(int node) {
            nodes.setHalf(node, LATEST, 0);
        }

        private void stop(char error, int where) {
            outcome = 'e';
            problem = error;
            chained = 0;
            int node = where;
            for (int i = level; i >= 0 && i < askers.length && node != 0; i--) {
                note(heap.expressionOf(node));
                int frame = nodes.half(node, FRAME);
                for (int j = 0; j < MOST_WITHIN && frames.half(frame, CALLING) != 0; j++) {
                    note(heap.expressionOf(frames.half(frame, CALLING)));
                    frame = frames.half(frame, CALLER);
                }
                node = askers[i];
            }
        }

        private void note(int expression) {
            if (chained >= 0 && chained < chain.length) {
                chain[chained] = expression;
                chained++;
            }
        }

        // ---- the run and its lives

        /** Begins what is asked now, or goes back into it. */
        private void enter() {
            int life = lifeNow();
            if (lives.half(life, OWN_FRAME) != 0) {
                move = BACK;
                at = lives.half(life, ROOT);
                return;
            }
            int frame = heap.takeFrame(0, 0);
            for (int i = 0; i < VARIABLES; i++) {
                heap.setVariable(frame, i, heap.copiedOf(life, i));
            }
            openIn(0, 0, heap.bodyOf(life), frame);
            lives.setHalf(life, OWN_FRAME, frame);
            lives.setHalf(life, ROOT, at);
        }

        /** The root of the run, or of a life, has given a value. */
        private void takeFromRoot(long coded) {
            vain.event();
            int asker = leaveLife();
            if (asker == 0) {
                outcome = 'v';
            } else {
                give(asker, coded);
            }
        }

        private void loseRoot() {
            lives.setHalf(lifeNow(), ROOT, 0);
            int asker = leaveLife();
            if (asker == 0) {
                outcome = 'f';
            } else {
                retreat(asker);
            }
        }

        /** Goes from a life to the '@' that asked it; there is none for the run. */
        private int leaveLife() {
            if (level <= 0 || level >= askers.length) {
                return 0;
            }
            level--;
            return askers[level + 1];
        }

        private void makeLife(int node) {
            int life = heap.takeLife(program.partOf(expressionOf(node), 1), subjectNow(), placeNow());
            for (int i = 0; i < VARIABLES; i++) {
                heap.setCopied(life, i, variableOf(node, i));
            }
            give(node, coded(IS_LIFE, life));
        }

        private void askLife(int node, long coded) {
            int life = heap.lifeOf(coded);
            if (life == 0) {
                stop('t', node);
            } else if (level < 0 || level >= MOST_ASKED) {
                stop('d', node);
            } else if (lives.half(life, OWN_FRAME) != 0 && lives.half(life, ROOT) == 0) {
                // it has no more
                retreat(node);
            } else {
                level++;
                asked[level] = life;
                askers[level] = node;
                enter();
            }
        }

        private void renewLife(int node, long coded) {
            int old = heap.lifeOf(coded);
            if (old == 0) {
                stop('t', node);
                return;
            }
            int life = heap.takeLife(heap.bodyOf(old), heap.subjectOf(old, COPIED_SUBJECT),
                    lives.half(old, COPIED_PLACE));
            for (int i = 0; i < VARIABLES; i++) {
                heap.setCopied(life, i, heap.copiedOf(old, i));
            }
            give(node, coded(IS_LIFE, life));
        }

        // ---- an expression is begun

        private void start(int node) {
            if (stepsLeft <= 0) {
                stop('l', node);
                return;
            }
            stepsLeft--;
            vain.event();
            expect(node);
            switch (heap.kindOf(node)) {
                case NUMBER:
                    giveNumber(node, amountOf(node));
                    break;
                case TEXT:
                    give(node, coded(IS_TEXT, -1 - expressionOf(node)));
                    break;
                case VARIABLE:
                    readVariable(node);
                    break;
                case 'q':
                    give(node, subjectNow());
                    break;
                case 'p':
                    giveNumber(node, placeNow());
                    break;
                case 'x': case 'y':
                    swap(node, amountOf(node), program.otherOf(expressionOf(node)));
                    break;
                case 'c':
                    makeLife(node);
                    break;
                case 'n':
                    goOn(node);
                    break;
                case 'b':
                    leaveLoop(node);
                    break;
                case 'S': case 'R': case 'f':
                    if (callOf(node) == 0) {
                        stop('b', node);
                    } else if (isTold(node, 1)) {
                        open(node, 1);
                    } else {
                        endProcedure(node);
                    }
                    break;
                default:
                    open(node, 1);
                    break;
            }
        }

        /** Which numbers are of use to the parent; those of 'S' go to the one that its procedure's call is in. */
        private void expect(int node) {
            int parent = parentOf(node);
            if (parent == 0) {
                operations.expectAll();
            } else {
                int giver = heap.kindOf(parent) == 'S' ? callOf(parent) : parent;
                operations.expectOf(expressionOf(parent), heap.partOf(node), nodes.whole(parent, ONE),
                        nodes.half(giver, LOW), nodes.half(giver, HIGH), heap.isTraced(giver));
            }
            heap.expect(node, operations.low(), operations.high(), operations.isTraced());
        }

        private void readVariable(int node) {
            long coded = variableOf(node, amountOf(node));
            if (coded == 0) {
                stop('x', node);
            } else {
                give(node, coded);
            }
        }

        private void swap(int node, int variable, int other) {
            long one = variableOf(node, variable);
            long two = variableOf(node, other);
            if (one == 0 || two == 0) {
                stop('x', node);
                return;
            }
            nodes.setWhole(node, ONE, one);
            nodes.setWhole(node, TWO, two);
            setVariable(node, variable, two);
            setVariable(node, other, one);
            give(node, two);
        }

        // ---- an expression is gone back into

        private void goBack(int node) {
            switch (heap.kindOf(node)) {
                case 'u':
                    setVariable(node, amountOf(node), nodes.whole(node, ONE));
                    retreat(node);
                    break;
                case 'y':
                    setVariable(node, amountOf(node), nodes.whole(node, ONE));
                    setVariable(node, program.otherOf(expressionOf(node)), nodes.whole(node, TWO));
                    fail(node);
                    break;
                case 'T': case 'm':
                    moveTo(nodes.half(node, X));
                    retreat(node);
                    break;
                case 't':
                    count(node, nodes.half(node, X) + 1L);
                    break;
                case 'U': case 'F':
                    if (vain.isInVain(nodes.whole(node, TWO))) {
                        vain.endFound(heap.slotOf(node), node, placeNow(), nodes.half(node, X));
                    }
                    goOnSeeking(node);
                    break;
                case 's':
                    enterScan(node);
                    retreat(node);
                    break;
                case CALL:
                    goBackIntoCall(node);
                    break;
                default:
                    retreat(node);
                    break;
            }
        }

        private void count(int node, long from) {
            int last = nodes.half(node, Y);
            long next = Operations.counted(from, last, nodes.half(node, LOW), nodes.half(node, HIGH),
                    heap.isTraced(node));
            if (next > last) {
                if (vain.isInVain(nodes.whole(node, TWO))) {
                    vain.endRow(heap.slotOf(node), node, placeNow(), last);
                }
                retreat(node);
            } else {
                nodes.setHalf(node, X, (int) next);
                giveNumber(node, (int) next);
            }
        }

        private void goOnSeeking(int node) {
            int place = operations.seek(heap.kindOf(node), nodes.whole(node, ONE), subjectNow(),
                    nodes.half(node, X) + 1, vain.found(heap.slotOf(node), node, placeNow()));
            if (place == 0) {
                retreat(node);
            } else {
                nodes.setWhole(node, TWO, vain.now());
                nodes.setHalf(node, X, place);
                giveNumber(node, place);
            }
        }

        private void goBackIntoCall(int node) {
            int waiting = nodes.half(node, WAITING);
            nodes.setHalf(node, WAITING, 0);
            if (waiting == 0) {
                retreat(node);
                return;
            }
            int scan = scanAround(waiting, node);
            if (scan != 0) {
                enterScan(scan);
            }
            retreat(waiting);
        }

        // ---- a part has a value

        private void take(int node, int part, long coded) {
            if (node == 0) {
                takeFromRoot(coded);
                return;
            }
            switch (heap.kindOf(node)) {
                case '|':
                    give(node, coded);
                    break;
                case '&':
                    giveOrOpen(node, part, coded);
                    break;
                case ';': case 'i':
                    if (part == 1) {
                        heap.dropLatest(node);
                    }
                    giveOrOpen(node, part, coded);
                    break;
                case '!':
                    fail(node);
                    break;
                case 'r':
                    nodes.setHalf(node, X, 1);
                    give(node, coded);
                    break;
                case 'l':
                    limit(node, part, coded);
                    break;
                case ':': case 'u':
                    set(node, coded);
                    break;
                case 'e': case 'w':
                    loop(node, part, coded);
                    break;
                case 's':
                    scan(node, part, coded);
                    break;
                case CALL:
                    takeArgument(node, part, coded);
                    break;
                case 'S':
                    suspend(node, coded);
                    break;
                case 'R':
                    endWith(node, coded);
                    break;
                case '@':
                    askLife(node, coded);
                    break;
                case '+': case '-': case '*': case '/': case '<': case '=': case '.': case '~': case 't': case '[':
                    takeOperand(node, part, coded);
                    break;
                default:
                    takeOnly(node, coded);
                    break;
            }
        }

        /** The other kinds with an only part. */
        private void takeOnly(int node, long coded) {
            switch (heap.kindOf(node)) {
                case 'T': case 'm':
                    travel(node, coded);
                    break;
                case 'U': case 'F':
                    nodes.setWhole(node, ONE, coded);
                    nodes.setHalf(node, X, placeNow() - 1);
                    goOnSeeking(node);
                    break;
                case '^':
                    renewLife(node, coded);
                    break;
                default:
                    match(node, coded);
                    break;
            }
        }

        private void giveOrOpen(int node, int part, long coded) {
            if (part == 1) {
                open(node, 2);
            } else {
                give(node, coded);
            }
        }

        private void limit(int node, int part, long coded) {
            if (part == 2) {
                vain.change();
                int more = nodes.half(node, X) - 1;
                nodes.setHalf(node, X, more);
                if (more <= 0) {
                    // nothing more is asked of what the first values are taken of
                    heap.dropLatest(node);
                }
                give(node, coded);
                return;
            }
            long most = texts.numberOf(coded);
            if (most == Texts.NO_NUMBER || most <= 0) {
                retreat(node);
            } else {
                nodes.setHalf(node, X, (int) most);
                open(node, 2);
            }
        }

        private void set(int node, long coded) {
            int variable = amountOf(node);
            if (heap.kindOf(node) == ':') {
                vain.change();
            }
            nodes.setWhole(node, ONE, variableOf(node, variable));
            setVariable(node, variable, coded);
            give(node, coded);
        }

        private void travel(int node, long coded) {
            int place = placeNow();
            int goal = operations.goal(heap.kindOf(node), coded, subjectNow(), place);
            if (goal == 0) {
                retreat(node);
                return;
            }
            nodes.setHalf(node, X, place);
            moveTo(goal);
            give(node, operations.between(subjectNow(), place, goal));
        }

        private void match(int node, long coded) {
            int place = operations.match(heap.kindOf(node), coded, subjectNow(), placeNow());
            if (place == 0) {
                retreat(node);
            } else {
                giveNumber(node, place);
            }
        }

        /** The kinds that need a value of each part. */
        private void takeOperand(int node, int part, long coded) {
            char kind = heap.kindOf(node);
            if (part == 1) {
                nodes.setWhole(node, ONE, coded);
                open(node, 2);
            } else if (kind == 't') {
                startCounting(node, coded);
            } else if (kind == '[' && part == 2) {
                nodes.setWhole(node, TWO, coded);
                open(node, 3);
            } else {
                char answer = operations.work(kind, nodes.whole(node, ONE), nodes.whole(node, TWO), coded);
                if (answer == 'v') {
                    give(node, operations.result());
                } else if (answer == 'f') {
                    retreat(node);
                } else {
                    stop(answer, node);
                }
            }
        }

        private void startCounting(int node, long coded) {
            long from = texts.numberOf(nodes.whole(node, ONE));
            long to = texts.numberOf(coded);
            if (from == Texts.NO_NUMBER || to == Texts.NO_NUMBER) {
                retreat(node);
            } else {
                nodes.setWhole(node, TWO, vain.now());
                nodes.setHalf(node, Y, (int) to);
                count(node, vain.firstOf(heap.slotOf(node), node, placeNow(), from));
            }
        }

        // ---- a part has no more values

        private void lose(int node) {
            if (node == 0) {
                loseRoot();
                return;
            }
            int part = heap.partOf(at);
            heap.dropLatest(node);
            switch (heap.kindOf(node)) {
                case '|': case ';':
                    openOrFail(node, part == 1, 2);
                    break;
                case 'i':
                    openOrFail(node, part == 1 && isTold(node, 3), 3);
                    break;
                case '!':
                    giveNumber(node, 0);
                    break;
                case 'r':
                    openOrFail(node, nodes.half(node, X) == 1, 1);
                    nodes.setHalf(node, X, 0);
                    break;
                case 'w':
                    openOrFail(node, part == 2, 1);
                    break;
                case 's':
                    if (part == 2) {
                        leaveScan(node);
                    }
                    retreat(node);
                    break;
                case 'R':
                    endProcedure(node);
                    break;
                default:
                    retreat(node);
                    break;
            }
        }

        private void openOrFail(int node, boolean isOpened, int part) {
            if (isOpened) {
                open(node, part);
            } else {
                fail(node);
            }
        }

        // ---- loops

        /** A value of a loop's a or b; or of the a of a 'b' that has left it, which is its third part. */
        private void loop(int node, int part, long coded) {
            if (part == 3) {
                give(node, coded);
            } else if (heap.kindOf(node) == 'w') {
                dropParts(node);
                open(node, part == 1 && isTold(node, 2) ? 2 : 1);
            } else if (part == 1 && isTold(node, 2)) {
                open(node, 2);
            } else {
                if (part == 2) {
                    heap.dropLatest(node);
                }
                retreat(node);
            }
        }

        /** The innermost loop around the expression in its procedure, or 0. */
        private int loopAround(int inner) {
            int node = inner;
            for (int i = 0; i < MOST_AROUND && parentOf(node) != 0; i++) {
                int part = heap.partOf(node);
                node = parentOf(node);
                char kind = heap.kindOf(node);
                if (kind == CALL && part == 3) {
                    return 0;
                }
                if ((kind == 'e' || kind == 'w') && part != 3) {
                    return node;
                }
            }
            return 0;
        }

        private void leaveLoop(int node) {
            int loop = loopAround(node);
            if (loop == 0) {
                stop('b', node);
                return;
            }
            leaveScans(node, loop);
            dropParts(loop);
            if (isTold(node, 1)) {
                openIn(loop, 3, program.partOf(expressionOf(node), 1), nodes.half(loop, FRAME));
            } else {
                fail(loop);
            }
        }

        private void goOn(int node) {
            int loop = loopAround(node);
            if (loop == 0) {
                stop('b', node);
            } else if (heap.kindOf(loop) == 'w') {
                leaveScans(node, loop);
                dropParts(loop);
                open(loop, 1);
            } else if (heap.partOf(nodes.half(loop, LATEST)) == 2) {
                leaveScans(node, loop);
                heap.dropLatest(loop);
                retreat(loop);
            } else {
                // the next value of a comes from the latest place in it, as behind any failing
                fail(node);
            }
        }

        // ---- scanning

        private void scan(int node, int part, long coded) {
            if (part == 2) {
                keepInside(node);
                leaveScan(node);
                give(node, coded);
                return;
            }
            if (operations.asText(coded) != 'v') {
                retreat(node);
                return;
            }
            nodes.setWhole(node, ONE, subjectNow());
            nodes.setHalf(node, X, placeNow());
            scanFrom(operations.result(), 1);
            open(node, 2);
        }

        private void keepInside(int scan) {
            nodes.setWhole(scan, TWO, subjectNow());
            nodes.setHalf(scan, Y, placeNow());
        }

        private void enterScan(int scan) {
            scanFrom(nodes.whole(scan, TWO), nodes.half(scan, Y));
        }

        private void leaveScan(int scan) {
            scanFrom(nodes.whole(scan, ONE), nodes.half(scan, X));
        }

        private void leaveScans(int inner, int outer) {
            int scan = scanAround(inner, outer);
            for (int i = 0; i < MOST_AROUND && scan != 0; i++) {
                leaveScan(scan);
                scan = scanAround(scan, outer);
            }
        }

        /** The innermost scanning around the one within the other, or 0. */
        private int scanAround(int inner, int outer) {
            int node = inner;
            for (int i = 0; i < MOST_AROUND && node != outer && parentOf(node) != 0; i++) {
                int part = heap.partOf(node);
                node = parentOf(node);
                if (heap.kindOf(node) == 's' && part == 2) {
                    return node;
                }
            }
            return 0;
        }

        // ---- procedures

        private void takeArgument(int node, int part, long coded) {
            if (part == 3) {
                heap.dropLatest(node);
                retreat(node);
            } else if (part == 1 && isTold(node, 2)) {
                nodes.setWhole(node, ONE, coded);
                open(node, 2);
            } else if (part == 1) {
                invoke(node, coded, 0);
            } else {
                invoke(node, nodes.whole(node, ONE), coded);
            }
        }

        private void invoke(int node, long first, long second) {
            int body = program.bodyOf(amountOf(node));
            int caller = nodes.half(node, FRAME);
            if (body == NONE) {
                stop('x', node);
            } else if (heap.depthOf(caller) >= MOST_WITHIN) {
                stop('d', node);
            } else {
                int frame = heap.takeFrame(node, caller);
                heap.setVariable(frame, 0, first);
                heap.setVariable(frame, 1, second);
                openIn(node, 3, body, frame);
            }
        }

        private void suspend(int node, long coded) {
            int call = callOf(node);
            int scan = scanAround(node, call);
            if (scan != 0) {
                keepInside(scan);
            }
            leaveScans(node, call);
            nodes.setHalf(call, WAITING, node);
            give(call, coded);
        }

        private void endWith(int node, long coded) {
            int call = callOf(node);
            leaveScans(node, call);
            heap.dropLatest(call);
            give(call, coded);
        }

        /** Ends the procedure without a value: the call goes back into its parts. */
        private void endProcedure(int node) {
            int call = callOf(node);
            leaveScans(node, call);
            heap.dropLatest(call);
            retreat(call);
        }
    }

    /** On the stack of the second way: an expression that is open, or a note of what to do on the way back. */
    private static final class Entry {
        private boolean isNote;
        private char kind;
        private int expression;
        /** Which entry the values are handed on to, as which part of it; for a note, the one that it is of. */
        private int receiver;
        private int part;
        private int room;
        private boolean isLater;
        private long one;
        private long two;
        private int x;
        private int y;
        /** Which numbers are of use to the receiver, and whether the last one of others leaves a trace. */
        private int low;
        private int high;
        private boolean isTraced;
        /** How many expressions are open, and how many rooms are used, with this entry on top. */
        private int open;
        private int rooms;
    }

    /** The variables of each procedure that is open in the second way, in rooms one behind the other. */
    private static final class Rooms {
        private static final int MOST = MOST_OPEN + 2;

        private final long[] variables = new long[MOST * VARIABLES];
        private final int[] calls = new int[MOST];
        private final int[] depths = new int[MOST];
        private int used;

        int used() {
            return used;
        }

        /** Uses so many rooms again as were used at another time. */
        void useAgain(int many) {
            used = Math.max(0, Math.min(many, MOST));
        }

        /** Takes a room for a call in another room, both NONE for the run itself; answers NONE if all are used. */
        int take(int call, int caller) {
            if (used < 0 || used >= MOST) {
                return NONE;
            }
            int room = used;
            used++;
            for (int i = 0; i < VARIABLES; i++) {
                variables[room * VARIABLES + i] = 0;
            }
            calls[room] = call;
            depths[room] = caller == NONE ? 0 : depthOf(caller) + 1;
            return room;
        }

        int callOf(int room) {
            return room >= 0 && room < MOST ? calls[room] : NONE;
        }

        int depthOf(int room) {
            return room >= 0 && room < MOST ? depths[room] : 0;
        }

        long get(int room, int variable) {
            return isThere(room, variable) ? variables[room * VARIABLES + variable] : 0;
        }

        void set(int room, int variable, long coded) {
            if (isThere(room, variable)) {
                variables[room * VARIABLES + variable] = coded;
            }
        }

        private static boolean isThere(int room, int variable) {
            return room >= 0 && room < MOST && variable >= 0 && variable < VARIABLES;
        }

        void mark(Texts texts) {
            for (int i = 0; i < used * VARIABLES && i < variables.length; i++) {
                texts.mark(variables[i]);
            }
        }
    }

    /** The second way: a value is handed on as it is found, and what is above its finder comes back to it. */
    private static final class Handing {
        private static final int START = 0;
        private static final int BACK = 1;
        private static final int GIVE = 2;
        /** Kinds of notes: what is done as they are come back to. */
        private static final char RESTORE_VARIABLE = '1';
        private static final char RESTORE_PLACE = '2';
        private static final char LEAVE_SCAN = '3';
        private static final char ENTER_SCAN = '4';
        private static final char COUNT = '5';
        private static final char SEEK = '6';
        /** An open expression has two notes at most. */
        private static final int HEIGHT = 4 * MOST_OPEN;

        private final Program program;
        private final Texts texts;
        private final Operations operations;
        private final Vain vain;
        private final Rooms rooms;
        private final Entry[] stack = new Entry[HEIGHT];
        private final Entry none = new Entry();
        private int root;
        private boolean begun;
        private int height;
        private int openNow;
        private int stepsLeft;
        private long mostMoves;
        private long subject;
        private int place;
        private int move;
        private int at;
        private long given;
        private char outcome;
        private char problem;

        Handing(Program program) {
            this.program = program;
            texts = new Texts(program);
            operations = new Operations(texts);
            vain = new Vain();
            rooms = new Rooms();
            for (int i = 0; i < HEIGHT; i++) {
                stack[i] = new Entry();
            }
        }

        void prepare(int expression, int steps, long moves) {
            texts.clear();
            rooms.useAgain(0);
            root = expression;
            begun = false;
            height = 0;
            openNow = 0;
            stepsLeft = steps;
            mostMoves = moves;
            subject = Texts.EMPTY;
            place = 1;
            given = 0;
            outcome = 0;
            problem = 0;
        }

        Texts texts() {
            return texts;
        }

        long last() {
            return given;
        }

        char problem() {
            return problem;
        }

        /** Hands the next value to the caller, whose asking again comes back to the finder. */
        char ask() {
            if (outcome == 'f' || outcome == 'e') {
                return outcome;
            }
            outcome = 0;
            move = BACK;
            if (!begun) {
                begun = true;
                openAs(root, NONE, 0, rooms.take(NONE, NONE));
            }
            for (long moves = 0; moves < mostMoves && outcome == 0; moves++) {
                if (texts.isTight()) {
                    collect();
                }
                Entry entry = entry(move == BACK ? height - 1 : at);
                if (move == START) {
                    start(at, entry);
                } else if (move == GIVE) {
                    take(entry.receiver, entry.part, given);
                } else if (height == 0) {
                    outcome = 'f';
                } else if (entry.isNote) {
                    comeToNote(entry.kind, entry.receiver, entry(entry.receiver));
                } else {
                    lose(height - 1, entry);
                }
            }
            if (outcome == 0) {
                stop('l');
            }
            if (outcome != 'v') {
                given = 0;
            }
            return outcome;
        }

        private void collect() {
            texts.mark(subject);
            texts.mark(given);
            for (int i = 0; i < height && i < HEIGHT; i++) {
                texts.mark(entry(i).one);
                texts.mark(entry(i).two);
            }
            rooms.mark(texts);
            texts.sweep(0);
        }

        // ---- the stack

        private Entry entry(int index) {
            return index >= 0 && index < HEIGHT ? stack[index] : none;
        }

        /** Leaves all that is on the stack from this height on, and comes back to what is below. */
        private void leave(int first) {
            height = Math.max(0, Math.min(first, height));
            Entry top = entry(height - 1);
            openNow = height == 0 ? 0 : top.open;
            rooms.useAgain(height == 0 ? 1 : top.rooms);
            move = BACK;
        }

        private void pop() {
            leave(height - 1);
        }

        private void note(char kind, int of) {
            if (height >= HEIGHT) {
                stop('d');
                return;
            }
            Entry note = entry(height);
            height++;
            note.isNote = true;
            note.kind = kind;
            note.receiver = of;
            note.one = 0;
            note.two = 0;
            note.open = openNow;
            note.rooms = rooms.used();
        }

        private void open(int index, int part) {
            Entry entry = entry(index);
            openAs(program.partOf(entry.expression, part), index, part, entry.room);
        }

        private void openAs(int expression, int receiver, int part, int room) {
            if (stepsLeft <= 0) {
                stop('l');
                return;
            }
            if (openNow >= MOST_OPEN || height >= HEIGHT || room == NONE) {
                stop('d');
                return;
            }
            stepsLeft--;
            vain.event();
            openNow++;
            at = height;
            move = START;
            Entry entry = entry(height);
            height++;
            entry.isNote = false;
            entry.kind = program.kindOf(expression);
            entry.expression = expression;
            entry.receiver = receiver;
            entry.part = part;
            entry.room = room;
            entry.isLater = false;
            entry.one = 0;
            entry.two = 0;
            entry.x = 0;
            entry.y = 0;
            entry.open = openNow;
            entry.rooms = rooms.used();
        }

        private void stop(char error) {
            outcome = 'e';
            problem = error;
        }

        private void give(int index, long coded) {
            move = GIVE;
            at = index;
            given = coded;
        }

        private void giveNumber(int index, int number) {
            give(index, coded(IS_NUMBER, number));
        }

        private void giveOrComeBack(int index, int number) {
            if (number == 0) {
                move = BACK;
            } else {
                giveNumber(index, number);
            }
        }

        private boolean isTold(int index, int part) {
            return program.partOf(entry(index).expression, part) != NONE;
        }

        private int amountOf(Entry entry) {
            return program.amountOf(entry.expression);
        }

        /** Where it is noted what the entry has given in vain. */
        private int slotOf(Entry entry) {
            return Vain.slotOf(rooms.depthOf(entry.room), entry.expression);
        }

        // ---- an expression is begun

        private void start(int index, Entry entry) {
            expect(entry);
            switch (entry.kind) {
                case NUMBER:
                    giveNumber(index, amountOf(entry));
                    break;
                case TEXT:
                    give(index, coded(IS_TEXT, -1 - entry.expression));
                    break;
                case VARIABLE:
                    readVariable(index, rooms.get(entry.room, amountOf(entry)));
                    break;
                case 'q':
                    give(index, subject);
                    break;
                case 'p':
                    giveNumber(index, place);
                    break;
                case 'x': case 'y':
                    swap(index, entry, amountOf(entry), program.otherOf(entry.expression));
                    break;
                case 'c':
                    stop('t');
                    break;
                case 'n':
                    goOn(index);
                    break;
                case 'b':
                    leaveLoop(index);
                    break;
                case 'S': case 'R': case 'f':
                    if (rooms.callOf(entry.room) == NONE) {
                        stop('b');
                    } else if (isTold(index, 1)) {
                        open(index, 1);
                    } else {
                        endProcedure(index);
                    }
                    break;
                default:
                    open(index, 1);
                    break;
            }
        }

        /** Which numbers are of use to the receiver; those of 'S' go to the one that its procedure's call is in. */
        private void expect(Entry entry) {
            if (entry.receiver == NONE) {
                operations.expectAll();
            } else {
                Entry receiver = entry(entry.receiver);
                Entry giver = receiver.kind == 'S' ? entry(rooms.callOf(receiver.room)) : receiver;
                operations.expectOf(receiver.expression, entry.part, receiver.one, giver.low, giver.high,
                        giver.isTraced);
            }
            entry.low = operations.low();
            entry.high = operations.high();
            entry.isTraced = operations.isTraced();
        }

        private void readVariable(int index, long coded) {
            if (coded == 0) {
                stop('x');
            } else {
                give(index, coded);
            }
        }

        private void swap(int index, Entry entry, int variable, int other) {
            entry.one = rooms.get(entry.room, variable);
            entry.two = rooms.get(entry.room, other);
            if (entry.one == 0 || entry.two == 0) {
                stop('x');
                return;
            }
            rooms.set(entry.room, variable, entry.two);
            rooms.set(entry.room, other, entry.one);
            give(index, entry.two);
        }

        // ---- the entry on top is come back to

        private void comeToNote(char kind, int index, Entry of) {
            switch (kind) {
                case RESTORE_VARIABLE:
                    rooms.set(of.room, amountOf(of), of.one);
                    pop();
                    break;
                case RESTORE_PLACE:
                    place = of.x;
                    pop();
                    break;
                case LEAVE_SCAN:
                    subject = of.one;
                    place = of.x;
                    pop();
                    break;
                case ENTER_SCAN:
                    subject = of.two;
                    place = of.y;
                    pop();
                    break;
                case COUNT:
                    count(index, of, of.x + 1L);
                    break;
                default:
                    if (vain.isInVain(of.two)) {
                        vain.endFound(slotOf(of), index, place, of.x);
                    }
                    goOnSeeking(index, of);
                    break;
            }
        }

        /** Goes on from this number on, with the note of the counting on top. */
        private void count(int index, Entry entry, long from) {
            long next = Operations.counted(from, entry.y, entry.low, entry.high, entry.isTraced);
            if (next > entry.y) {
                if (vain.isInVain(entry.two)) {
                    vain.endRow(slotOf(entry), index, place, entry.y);
                }
                leave(height - 1);
            } else {
                entry.x = (int) next;
                giveNumber(index, entry.x);
            }
        }

        private void goOnSeeking(int index, Entry entry) {
            entry.two = vain.now();
            entry.x = operations.seek(entry.kind, entry.one, subject, entry.x + 1,
                    vain.found(slotOf(entry), index, place));
            if (entry.x == 0) {
                pop();
            } else {
                giveNumber(index, entry.x);
            }
        }

        /** All that is above the entry has come back: it goes on with another part, or is no more open. */
        private void lose(int index, Entry entry) {
            boolean wasLater = entry.isLater;
            entry.isLater = true;
            switch (entry.kind) {
                case '|': case ';':
                    openOrPop(index, !wasLater, 2);
                    break;
                case 'i':
                    openOrPop(index, !wasLater && isTold(index, 3), 3);
                    break;
                case '!':
                    if (wasLater) {
                        pop();
                    } else {
                        giveNumber(index, 0);
                    }
                    break;
                case 'r':
                    openOrPop(index, entry.x == 1, 1);
                    entry.x = 0;
                    break;
                case 'w':
                    entry.isLater = false;
                    openOrPop(index, wasLater, 1);
                    break;
                case 'R':
                    endProcedure(index);
                    break;
                case 'y':
                    rooms.set(entry.room, amountOf(entry), entry.one);
                    rooms.set(entry.room, program.otherOf(entry.expression), entry.two);
                    pop();
                    break;
                default:
                    pop();
                    break;
            }
        }

        private void openOrPop(int index, boolean isOpened, int part) {
            if (isOpened) {
                open(index, part);
            } else {
                pop();
            }
        }

        // ---- a value is handed to the one that has the giver as a part

        private void take(int index, int part, long coded) {
            if (index == NONE) {
                vain.event();
                outcome = 'v';
                return;
            }
            Entry entry = entry(index);
            switch (entry.kind) {
                case '|':
                    give(index, coded);
                    break;
                case '&':
                    giveOrOpen(index, part, coded);
                    break;
                case ';': case 'i':
                    takeOfChoice(index, part, coded);
                    break;
                case '!':
                    leave(index);
                    break;
                case 'r':
                    entry.x = 1;
                    give(index, coded);
                    break;
                case 'l':
                    limit(index, part, coded);
                    break;
                case ':': case 'u':
                    set(index, coded);
                    break;
                case 'e': case 'w':
                    loop(index, part);
                    break;
                case 's':
                    scan(index, part, coded);
                    break;
                case CALL:
                    takeArgument(index, part, coded);
                    break;
                case '+': case '-': case '*': case '/': case '<': case '=': case '.': case '~': case 't': case '[':
                    takeOperand(index, part, coded);
                    break;
                default:
                    takeOnly(index, entry, coded);
                    break;
            }
        }

        /** The other kinds with an only part. */
        private void takeOnly(int index, Entry entry, long coded) {
            switch (entry.kind) {
                case 'T': case 'm':
                    travel(index, coded);
                    break;
                case 'U': case 'F':
                    entry.one = coded;
                    entry.x = place - 1;
                    note(SEEK, index);
                    goOnSeeking(index, entry);
                    break;
                case 'S':
                    suspend(index, coded);
                    break;
                case 'R':
                    endWith(index, coded);
                    break;
                case '@': case '^':
                    // there are no lives in this way
                    stop('t');
                    break;
                default:
                    giveOrComeBack(index, operations.match(entry.kind, coded, subject, place));
                    break;
            }
        }

        private void giveOrOpen(int index, int part, long coded) {
            if (part == 1) {
                open(index, 2);
            } else {
                give(index, coded);
            }
        }

        /** A value of a part of ';' or 'i', the first of which is bounded. */
        private void takeOfChoice(int index, int part, long coded) {
            if (part == 1) {
                leave(index + 1);
                entry(index).isLater = true;
                open(index, 2);
            } else {
                give(index, coded);
            }
        }

        private void limit(int index, int part, long coded) {
            Entry entry = entry(index);
            if (part == 2) {
                vain.change();
                entry.x--;
                if (entry.x <= 0) {
                    // nothing more is asked of what the first values are taken of
                    leave(entry.y);
                }
                give(index, coded);
                return;
            }
            long most = texts.numberOf(coded);
            if (most == Texts.NO_NUMBER || most <= 0) {
                move = BACK;
            } else {
                entry.x = (int) most;
                entry.y = height;
                open(index, 2);
            }
        }

        private void set(int index, long coded) {
            Entry entry = entry(index);
            entry.one = rooms.get(entry.room, amountOf(entry));
            rooms.set(entry.room, amountOf(entry), coded);
            if (entry.kind == 'u') {
                note(RESTORE_VARIABLE, index);
            } else {
                vain.change();
            }
            give(index, coded);
        }

        private void travel(int index, long coded) {
            Entry entry = entry(index);
            int goal = operations.goal(entry.kind, coded, subject, place);
            if (goal == 0) {
                move = BACK;
                return;
            }
            entry.x = place;
            place = goal;
            note(RESTORE_PLACE, index);
            give(index, operations.between(subject, entry.x, goal));
        }

        private void takeOperand(int index, int part, long coded) {
            Entry entry = entry(index);
            if (part == 1) {
                entry.one = coded;
                open(index, 2);
            } else if (entry.kind == 't') {
                startCounting(index, texts.numberOf(entry.one), texts.numberOf(coded));
            } else if (entry.kind == '[' && part == 2) {
                entry.two = coded;
                open(index, 3);
            } else {
                char answer = operations.work(entry.kind, entry.one, entry.two, coded);
                if (answer == 'v') {
                    give(index, operations.result());
                } else if (answer == 'f') {
                    move = BACK;
                } else {
                    stop(answer);
                }
            }
        }

        private void startCounting(int index, long from, long to) {
            if (from == Texts.NO_NUMBER || to == Texts.NO_NUMBER) {
                move = BACK;
                return;
            }
            Entry entry = entry(index);
            entry.y = (int) to;
            entry.two = vain.now();
            note(COUNT, index);
            count(index, entry, vain.firstOf(slotOf(entry), index, place, from));
        }

        // ---- loops

        private void loop(int index, int part) {
            Entry entry = entry(index);
            if (entry.kind == 'w') {
                leave(index + 1);
                entry.isLater = part == 1 && isTold(index, 2);
                open(index, entry.isLater ? 2 : 1);
            } else if (part == 1 && isTold(index, 2)) {
                entry.x = height;
                open(index, 2);
            } else if (part == 2) {
                leave(entry.x);
            } else {
                move = BACK;
            }
        }

        /** The entry within the innermost loop around this one in its procedure, as its a or b; or NONE. */
        private int partOfLoop(int index) {
            int inner = index;
            for (int i = 0; i < HEIGHT && entry(inner).receiver != NONE; i++) {
                char kind = entry(entry(inner).receiver).kind;
                if (kind == CALL && entry(inner).part == 3) {
                    return NONE;
                }
                if (kind == 'e' || kind == 'w') {
                    return inner;
                }
                inner = entry(inner).receiver;
            }
            return NONE;
        }

        /** The loop is left with all in it, and its receiver has the values of the a of 'b' instead. */
        private void leaveLoop(int index) {
            int part = partOfLoop(index);
            if (part == NONE) {
                stop('b');
                return;
            }
            int expression = program.partOf(entry(index).expression, 1);
            int loop = entry(part).receiver;
            leaveScans(index, loop);
            leave(loop);
            if (expression != NONE) {
                // a loop that is the body of a procedure is left, but not the procedure
                rooms.useAgain(entry(loop).rooms);
                openAs(expression, entry(loop).receiver, entry(loop).part, entry(loop).room);
            }
        }

        private void goOn(int index) {
            int part = partOfLoop(index);
            if (part == NONE) {
                stop('b');
                return;
            }
            int loop = entry(part).receiver;
            if (entry(loop).kind == 'w') {
                leaveScans(index, loop);
                leave(loop + 1);
                entry(loop).isLater = false;
                open(loop, 1);
            } else if (entry(part).part == 2) {
                leaveScans(index, loop);
                leave(entry(loop).x);
            } else {
                // the next value of a comes from the latest place in it, as behind any failing
                pop();
            }
        }

        // ---- scanning

        private void scan(int index, int part, long coded) {
            Entry entry = entry(index);
            if (part == 2) {
                keepInside(index);
                subject = entry.one;
                place = entry.x;
                give(index, coded);
            } else if (operations.asText(coded) != 'v') {
                move = BACK;
            } else {
                entry.one = subject;
                entry.x = place;
                subject = operations.result();
                place = 1;
                note(LEAVE_SCAN, index);
                open(index, 2);
            }
        }

        private void keepInside(int scan) {
            entry(scan).two = subject;
            entry(scan).y = place;
            note(ENTER_SCAN, scan);
        }

        /** Leaves the scannings between two entries, and answers the innermost one or NONE. */
        private void leaveScans(int index, int outer) {
            int inner = index;
            for (int i = 0; i < HEIGHT && inner != outer && inner != NONE; i++) {
                Entry around = entry(entry(inner).receiver);
                if (around.kind == 's' && entry(inner).part == 2) {
                    subject = around.one;
                    place = around.x;
                }
                inner = entry(inner).receiver;
            }
        }

        private int scanAround(int index, int outer) {
            int inner = index;
            for (int i = 0; i < HEIGHT && inner != outer && inner != NONE; i++) {
                int around = entry(inner).receiver;
                if (entry(around).kind == 's' && entry(inner).part == 2) {
                    return around;
                }
                inner = around;
            }
            return NONE;
        }

        // ---- procedures

        private void takeArgument(int index, int part, long coded) {
            if (part == 3) {
                leave(entry(index).y);
            } else if (part == 1 && isTold(index, 2)) {
                entry(index).one = coded;
                open(index, 2);
            } else if (part == 1) {
                invoke(index, coded, 0);
            } else {
                invoke(index, entry(index).one, coded);
            }
        }

        private void invoke(int index, long first, long second) {
            Entry entry = entry(index);
            int body = program.bodyOf(amountOf(entry));
            if (body == NONE) {
                stop('x');
            } else if (rooms.depthOf(entry.room) >= MOST_WITHIN) {
                stop('d');
            } else {
                entry.y = height;
                int room = rooms.take(index, entry.room);
                rooms.set(room, 0, first);
                rooms.set(room, 1, second);
                openAs(body, index, 3, room);
            }
        }

        private void suspend(int index, long coded) {
            int call = rooms.callOf(entry(index).room);
            int scan = scanAround(index, call);
            if (scan != NONE) {
                keepInside(scan);
            }
            leaveScans(index, call);
            give(call, coded);
        }

        private void endWith(int index, long coded) {
            int call = rooms.callOf(entry(index).room);
            leaveScans(index, call);
            leave(entry(call).y);
            give(call, coded);
        }

        /** Ends the procedure without a value, and comes back to the parts of its call. */
        private void endProcedure(int index) {
            int call = rooms.callOf(entry(index).room);
            leaveScans(index, call);
            leave(entry(call).y);
        }
    }
}
