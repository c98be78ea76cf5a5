import java.util.ArrayList;
import java.util.NoSuchElementException;

/** A language in which each expression succeeds with values one after the other, or fails. */
public final class DoorScan {

    private static final int MOST_EXPRESSIONS = 80;
    private static final int MOST_LETTERS = 60;
    private static final int VARIABLES = 8;
    private static final int PROCEDURES = 6;
    private static final int MOST_WITHIN = 30;
    private static final int MOST_ASKED = 8;
    private static final int MOST_OPEN = 150;
    private static final int MOST_STEPS = 1000;
    private static final int MOST_HANDED = 20;
    private static final int CHECKED_STEPS = 100;
    private static final int CHECKED_VALUES = 3;

    /** Bounds of the two ways' loops: steps have limits of their own, values without a step have none. */
    private static final long MOST_MOVES = 1L << 62;
    private static final long CHECKED_MOVES = 1L << 16;

    /** Kinds that have a call of their own; the letters are none of those that make and assign know. */
    private static final char NUMBER = '0';
    private static final char TEXT = '"';
    private static final char VARIABLE = 'v';
    private static final char CALL = '(';

    /** That a part is not told, or that there is no such thing. */
    private static final int NONE = -1;

    /** A value is a long: its sort in the upper half, and in the lower one a number or an index; 0 is no value. */
    private static final int IS_NUMBER = 1;
    private static final int IS_TEXT = 2;
    private static final int IS_LIFE = 3;
    private static final long LOWER = 0xFFFFFFFFL;
    private static final int LEAST_NUMBER = -2147483648;
    private static final int MOST_NUMBER = 2147483647;

    private final Program program;
    private final Machine run;
    private final Machine probe;
    private final Handing handing;
    private final char[] buffer;
    private final char[] shown;
    private final char[] compared;
    private int typed;
    private int begun;
    private int given;
    private int failed;
    private long made;

    public DoorScan() {
        program = new Program();
        run = new Machine(program, MOST_MOVES);
        probe = new Machine(program, CHECKED_MOVES);
        handing = new Handing(program);
        buffer = new char[MOST_LETTERS];
        shown = new char[MOST_LETTERS];
        compared = new char[MOST_LETTERS];
    }

    // ---- expressions

    public int type(char character) throws IllegalArgumentException, IllegalStateException {
        if (character < 32 || character > 126) {
            throw new IllegalArgumentException("no such character");
        }
        if (typed < 0 || typed >= buffer.length) {
            throw new IllegalStateException("the buffer is full");
        }
        buffer[typed] = character;
        typed++;
        return typed;
    }

    public int number(int n) throws IllegalStateException {
        requireRoom();
        return program.add(NUMBER, n, 0);
    }

    public int text() throws IllegalStateException {
        requireRoom();
        int expression = program.add(TEXT, 0, 0);
        program.setText(expression, buffer, typed);
        typed = 0;
        return expression;
    }

    public int variable(int variable) throws IllegalArgumentException, IllegalStateException {
        requireVariable(variable);
        requireRoom();
        return program.add(VARIABLE, variable, 0);
    }

    public int make(char kind, int a, int b, int c)
            throws IllegalArgumentException, IndexOutOfBoundsException, IllegalStateException {
        int least = Program.leastParts(kind);
        int most = Program.mostParts(kind);
        if (least < 0 || !isTold(a, 1, least, most) || !isTold(b, 2, least, most) || !isTold(c, 3, least, most)) {
            throw new IllegalArgumentException("no such kind, or not its parts");
        }
        requireToldPart(a);
        requireToldPart(b);
        requireToldPart(c);
        requireRoom();
        int expression = program.add(kind, 0, 0);
        if (kind == 'l') {
            // parts stand in the order in which they are begun, and l begins its b first
            program.setParts(expression, b, a, NONE);
        } else {
            program.setParts(expression, a, b, c);
        }
        return expression;
    }

    public int assign(char kind, int variable, int a)
            throws IllegalArgumentException, IndexOutOfBoundsException, IllegalStateException {
        if (kind != ':' && kind != 'u') {
            throw new IllegalArgumentException("no such assignment");
        }
        requireVariable(variable);
        requirePart(a);
        requireRoom();
        int expression = program.add(kind, variable, 0);
        program.setParts(expression, a, NONE, NONE);
        return expression;
    }

    public int exchange(char kind, int variable, int other) throws IllegalArgumentException, IllegalStateException {
        if (kind != 'x' && kind != 'y') {
            throw new IllegalArgumentException("no such exchange");
        }
        requireVariable(variable);
        requireVariable(other);
        requireRoom();
        return program.add(kind, variable, other);
    }

    public int call(int procedure, int a, int b)
            throws IllegalArgumentException, IndexOutOfBoundsException, IllegalStateException {
        requireProcedure(procedure);
        requirePart(a);
        requireToldPart(b);
        requireRoom();
        int expression = program.add(CALL, procedure, 0);
        program.setParts(expression, a, b, NONE);
        return expression;
    }

    public boolean define(int procedure, int a) throws IllegalArgumentException, IndexOutOfBoundsException {
        requireProcedure(procedure);
        requirePart(a);
        boolean had = program.bodyOf(procedure) != NONE;
        program.setBody(procedure, a);
        return had;
    }

    // ---- runs

    public int begin(int a) throws IndexOutOfBoundsException {
        requirePart(a);
        run.prepare(a);
        begun++;
        return begun;
    }

    public char next() throws IllegalStateException {
        requireRun();
        if (run.ended() != 0) {
            return run.ended();
        }
        run.allow(MOST_STEPS);
        char answer = run.ask();
        made += MOST_STEPS - run.stepsLeft();
        if (answer == 'v') {
            given++;
        } else if (answer == 'e') {
            failed++;
        }
        return answer;
    }

    public char kind() throws IllegalStateException, NoSuchElementException {
        requireValue();
        int sort = sortOf(run.last());
        return sort == IS_NUMBER ? 'n' : sort == IS_TEXT ? 't' : 'c';
    }

    public int value() throws IllegalStateException, NoSuchElementException, UnsupportedOperationException {
        requireValue();
        long number = run.texts().numberOf(run.last());
        requireNumber(number);
        return (int) number;
    }

    public int length() throws IllegalStateException, NoSuchElementException, UnsupportedOperationException {
        requireValue();
        return showLast();
    }

    public char charAt(int index) throws IllegalStateException, NoSuchElementException,
            UnsupportedOperationException, IndexOutOfBoundsException {
        requireValue();
        int length = showLast();
        if (index < 0 || index >= length || index >= shown.length) {
            throw new IndexOutOfBoundsException("no such character");
        }
        return shown[index];
    }

    public char error() throws IllegalStateException, NoSuchElementException {
        requireRun();
        if (run.problem() == 0) {
            throw new NoSuchElementException("no error");
        }
        return run.problem();
    }

    public int trace() throws IllegalStateException {
        requireRun();
        return run.chained();
    }

    public int traceAt(int index) throws IllegalStateException, IndexOutOfBoundsException {
        requireRun();
        if (index < 0 || index >= run.chained()) {
            throw new IndexOutOfBoundsException("no such place");
        }
        return run.chainAt(index);
    }

    public boolean hasVariable(int variable) throws IllegalArgumentException, IllegalStateException {
        requireVariable(variable);
        requireRun();
        return run.ownVariable(variable) != 0;
    }

    public int variableNow(int variable) throws IllegalArgumentException, IllegalStateException,
            NoSuchElementException, UnsupportedOperationException {
        requireVariable(variable);
        requireRun();
        long coded = run.ownVariable(variable);
        if (coded == 0) {
            throw new NoSuchElementException("the variable has no value");
        }
        long number = run.texts().numberOf(coded);
        requireNumber(number);
        return (int) number;
    }

    public int subjectLength() throws IllegalStateException {
        requireRun();
        return run.texts().load(run.ownSubject(), shown);
    }

    public int place() throws IllegalStateException {
        requireRun();
        return run.ownPlace();
    }

    // ---- a second way, and figures

    public int countHanded(int a, int most) throws IndexOutOfBoundsException, IllegalArgumentException {
        requirePart(a);
        if (most < 1 || most > MOST_HANDED) {
            throw new IllegalArgumentException("so many are not found");
        }
        handing.prepare(a, MOST_STEPS, MOST_MOVES);
        int count = 0;
        while (count < most && handing.ask() == 'v') {
            count++;
        }
        return count;
    }

    public int handed(int a, int index) throws IndexOutOfBoundsException, IllegalArgumentException,
            NoSuchElementException, UnsupportedOperationException {
        requirePart(a);
        if (index < 0 || index >= MOST_HANDED) {
            throw new IllegalArgumentException("so many are not found");
        }
        handing.prepare(a, MOST_STEPS, MOST_MOVES);
        for (int i = 0; i <= index; i++) {
            handing.ask();
        }
        if (handing.last() == 0) {
            throw new NoSuchElementException("no such value");
        }
        long number = handing.texts().numberOf(handing.last());
        requireNumber(number);
        return (int) number;
    }

    public int runs() {
        return begun;
    }

    public long steps() {
        return made;
    }

    public int values() {
        return given;
    }

    public float errorShare() throws ArithmeticException {
        if (begun == 0) {
            throw new ArithmeticException("no runs");
        }
        return (float) failed / (float) begun;
    }

    public double meanSteps() throws ArithmeticException {
        if (given == 0) {
            throw new ArithmeticException("no values");
        }
        return (double) made / (double) given;
    }

    public boolean isSound() {
        program.findLives();
        boolean sound = true;
        for (int expression = 0; expression < MOST_EXPRESSIONS && sound; expression++) {
            if (program.has(expression) && !program.hasLife(expression)) {
                probe.prepare(expression);
                probe.allow(CHECKED_STEPS);
                handing.prepare(expression, CHECKED_STEPS, CHECKED_MOVES);
                boolean same = true;
                for (int i = 0; i < CHECKED_VALUES; i++) {
                    same &= (probe.ask() == 'v') == (handing.ask() == 'v') && isSameLast();
                }
                sound = same || isLimit(probe.problem()) || isLimit(handing.problem());
            }
        }
        return sound;
    }

    // ---- what the calls share

    private void requireRoom() {
        if (program.isFull()) {
            throw new IllegalStateException("no room for an expression");
        }
    }

    private void requireVariable(int variable) {
        if (variable < 0 || variable >= VARIABLES) {
            throw new IllegalArgumentException("no such variable");
        }
    }

    private void requireProcedure(int procedure) {
        if (procedure < 0 || procedure >= PROCEDURES) {
            throw new IllegalArgumentException("no such procedure");
        }
    }

    private void requirePart(int a) {
        if (!program.has(a)) {
            throw new IndexOutOfBoundsException("no such expression");
        }
    }

    private void requireToldPart(int a) {
        if (a != NONE) {
            requirePart(a);
        }
    }

    private void requireRun() {
        if (begun == 0) {
            throw new IllegalStateException("no run");
        }
    }

    private void requireValue() {
        requireRun();
        if (run.last() == 0) {
            throw new NoSuchElementException("no value");
        }
    }

    private void requireNumber(long number) {
        if (number == Texts.NO_NUMBER) {
            throw new UnsupportedOperationException("no number");
        }
    }

    /** Whether the part of this number is told or left out as the kind has it. */
    private static boolean isTold(int part, int number, int least, int most) {
        return part == NONE ? number > least : number <= most;
    }

    private int showLast() {
        int length = run.texts().load(run.last(), shown);
        if (length < 0) {
            throw new UnsupportedOperationException("a life is no text");
        }
        return length;
    }

    private static long coded(int sort, int content) {
        return ((long) sort << 32) | (content & LOWER);
    }

    private static int sortOf(long coded) {
        return (int) (coded >>> 32);
    }

    private static int contentOf(long coded) {
        return (int) coded;
    }

    private static boolean isLimit(char problem) {
        return problem == 'l' || problem == 'd';
    }

    /** Whether the last values of both ways are the same; if there is none, it is the same as another one's lack. */
    private boolean isSameLast() {
        if (sortOf(probe.last()) != sortOf(handing.last())) {
            return false;
        }
        int length = probe.texts().load(probe.last(), shown);
        int other = handing.texts().load(handing.last(), compared);
        return Operations.isSame(shown, length, compared, other);
    }

    /** The expressions and the bodies of the procedures. */
    private static final class Program {
        private final char[] kinds = new char[MOST_EXPRESSIONS];
        private final int[] firsts = new int[MOST_EXPRESSIONS];
        private final int[] seconds = new int[MOST_EXPRESSIONS];
        private final int[] thirds = new int[MOST_EXPRESSIONS];
        private final int[] amounts = new int[MOST_EXPRESSIONS];
        private final int[] others = new int[MOST_EXPRESSIONS];
        private final int[] lengths = new int[MOST_EXPRESSIONS];
        private final char[] letters = new char[MOST_EXPRESSIONS * MOST_LETTERS];
        private final boolean[] alive = new boolean[MOST_EXPRESSIONS];
        private final int[] bodies = {NONE, NONE, NONE, NONE, NONE, NONE};
        private int count;

        /** How many parts the kind needs, less than 0 for a kind that make does not know. */
        static int leastParts(char kind) {
            switch (kind) {
                case 'q': case 'p': case 'n': case 'f': case 'R': case 'b':
                    return 0;
                case 'r': case '!': case 'T': case 'm': case 'P': case 'A': case 'M': case 'U': case 'F':
                case 'H': case 'S': case 'c': case '@': case '^': case 'e': case 'w':
                    return 1;
                case '|': case '&': case ';': case 't': case '+': case '-': case '*': case '/': case '.':
                case '<': case '=': case '~': case 'l': case 's': case 'i':
                    return 2;
                case '[':
                    return 3;
                default:
                    return NONE;
            }
        }

        static int mostParts(char kind) {
            switch (kind) {
                case 'R': case 'b':
                    return 1;
                case 'e': case 'w':
                    return 2;
                case 'i':
                    return 3;
                default:
                    return leastParts(kind);
            }
        }

        boolean isFull() {
            return count >= MOST_EXPRESSIONS;
        }

        boolean has(int expression) {
            return expression >= 0 && expression < count && expression < MOST_EXPRESSIONS;
        }

        int add(char kind, int amount, int other) {
            if (count < 0 || count >= MOST_EXPRESSIONS) {
                return NONE;
            }
            int expression = count;
            count++;
            kinds[expression] = kind;
            amounts[expression] = amount;
            others[expression] = other;
            setParts(expression, NONE, NONE, NONE);
            return expression;
        }

        void setParts(int expression, int first, int second, int third) {
            if (has(expression)) {
                firsts[expression] = first;
                seconds[expression] = second;
                thirds[expression] = third;
            }
        }

        void setText(int expression, char[] from, int length) {
            if (has(expression) && length >= 0 && length <= MOST_LETTERS && length <= from.length) {
                System.arraycopy(from, 0, letters, expression * MOST_LETTERS, length);
                lengths[expression] = length;
            }
        }

        char kindOf(int expression) {
            return expression >= 0 && expression < MOST_EXPRESSIONS ? kinds[expression] : 0;
        }

        int amountOf(int expression) {
            return expression >= 0 && expression < MOST_EXPRESSIONS ? amounts[expression] : 0;
        }

        int otherOf(int expression) {
            return expression >= 0 && expression < MOST_EXPRESSIONS ? others[expression] : 0;
        }

        /** The part that is begun as the first, second or third one, or NONE. */
        int partOf(int expression, int number) {
            if (expression < 0 || expression >= MOST_EXPRESSIONS) {
                return NONE;
            }
            return number == 1 ? firsts[expression] : number == 2 ? seconds[expression] : thirds[expression];
        }

        int bodyOf(int procedure) {
            return procedure >= 0 && procedure < bodies.length ? bodies[procedure] : NONE;
        }

        void setBody(int procedure, int expression) {
            if (procedure >= 0 && procedure < bodies.length) {
                bodies[procedure] = expression;
            }
        }

        /** Finds which expressions have a life in them, or call a procedure that has. */
        void findLives() {
            for (int i = 0; i < MOST_EXPRESSIONS; i++) {
                alive[i] = false;
            }
            // a body may be a later expression: each round reaches at least one procedure further
            for (int round = 0; round <= PROCEDURES + 1; round++) {
                for (int i = 0; i < count && i < MOST_EXPRESSIONS; i++) {
                    alive[i] = kinds[i] == 'c' || hasLife(firsts[i]) || hasLife(seconds[i]) || hasLife(thirds[i])
                            || kinds[i] == CALL && hasLife(bodyOf(amounts[i]));
                }
            }
        }

        boolean hasLife(int expression) {
            return has(expression) && alive[expression];
        }
    }

    /** The texts that a way of finding values has made, and how values are read as texts and numbers. */
    private static final class Texts {
        static final long NO_NUMBER = 1L << 63;
        /** A text without letters: contents below 0 are texts of the program, and this one is of no expression. */
        static final long EMPTY = ((long) IS_TEXT << 32) | ((-1 - MOST_EXPRESSIONS) & LOWER);
        private static final int AT_FIRST = 128;
        private static final int MOST = 1 << 20;
        private static final int MOST_IN_A_MOVE = 4;
        /** Letters are packed, eight in a long, as what is kept is counted by its elements. */
        private static final int IN_A_LONG = 8;
        private static final int LETTER = (1 << IN_A_LONG) - 1;
        private static final int LONGS = (MOST_LETTERS + IN_A_LONG - 1) / IN_A_LONG;
        private static final int DIGITS = 9;

        private final Program program;
        private final char[] read = new char[MOST_LETTERS];
        private long[] packed = new long[AT_FIRST * LONGS];
        private int[] lengths = new int[AT_FIRST];
        private boolean[] marks = new boolean[AT_FIRST];
        private int[] spare = new int[AT_FIRST];
        private int spares;
        private int fresh;

        Texts(Program program) {
            this.program = program;
        }

        void clear() {
            spares = 0;
            fresh = 0;
        }

        boolean isTight() {
            return spares + lengths.length - fresh < MOST_IN_A_MOVE;
        }

        /** Keeps the characters as a text; there is room, as collecting goes ahead of a move if it is tight. */
        long keep(char[] from, int start, int length) {
            if (start < 0 || length <= 0 || length > MOST_LETTERS || start > from.length - length) {
                return EMPTY;
            }
            int slot = NONE;
            if (spares > 0 && spares <= spare.length) {
                spares--;
                slot = spare[spares];
            } else if (fresh < lengths.length) {
                slot = fresh;
                fresh++;
            }
            if (slot < 0 || slot >= lengths.length) {
                return EMPTY;
            }
            pack(from, start, length, slot * LONGS);
            lengths[slot] = length;
            return ((long) IS_TEXT << 32) | slot;
        }

        private void pack(char[] from, int start, int length, int first) {
            int at = first;
            long row = 0;
            for (int i = 0; i < length; i++) {
                row |= (long) from[start + i] << IN_A_LONG * (i % IN_A_LONG);
                if (i % IN_A_LONG == IN_A_LONG - 1 || i == length - 1) {
                    packed[at] = row;
                    at++;
                    row = 0;
                }
            }
        }

        void mark(long coded) {
            int slot = (int) coded;
            if (coded >>> 32 == IS_TEXT && slot >= 0 && slot < marks.length) {
                marks[slot] = true;
            }
        }

        /** Makes the unmarked texts spare, and more room if few of them are. */
        void sweep() {
            spares = 0;
            for (int slot = 0; slot < fresh && slot < marks.length; slot++) {
                if (marks[slot]) {
                    marks[slot] = false;
                } else if (spares < spare.length) {
                    spare[spares] = slot;
                    spares++;
                }
            }
            if (spares + lengths.length - fresh < lengths.length / 2 && lengths.length < MOST) {
                widen(lengths.length * 2);
            }
        }

        private void widen(int size) {
            if (size <= lengths.length || size > MOST) {
                return;
            }
            long[] morePacked = new long[size * LONGS];
            int[] moreLengths = new int[size];
            int[] moreSpare = new int[size];
            System.arraycopy(packed, 0, morePacked, 0, packed.length);
            System.arraycopy(lengths, 0, moreLengths, 0, lengths.length);
            System.arraycopy(spare, 0, moreSpare, 0, spare.length);
            packed = morePacked;
            lengths = moreLengths;
            spare = moreSpare;
            marks = new boolean[size];
        }

        /** Puts the value's text into the row, and answers its length, or less than 0 for what is no text. */
        int load(long coded, char[] into) {
            switch (sortOf(coded)) {
                case IS_NUMBER:
                    return write(contentOf(coded), into);
                case IS_TEXT:
                    return copy(contentOf(coded), into);
                default:
                    return NONE;
            }
        }

        private int copy(int content, char[] into) {
            int expression = -1 - content;
            if (into.length < MOST_LETTERS || content >= lengths.length || expression >= MOST_EXPRESSIONS) {
                return 0;
            }
            if (content >= 0) {
                int first = content * LONGS;
                for (int i = 0; i < lengths[content]; i++) {
                    into[i] = (char) (packed[first + i / IN_A_LONG] >>> IN_A_LONG * (i % IN_A_LONG) & LETTER);
                }
                return lengths[content];
            }
            System.arraycopy(program.letters, expression * MOST_LETTERS, into, 0, program.lengths[expression]);
            return program.lengths[expression];
        }

        private static int write(int number, char[] into) {
            if (into.length < MOST_LETTERS) {
                return 0;
            }
            long rest = number < 0 ? -(long) number : number;
            int length = number < 0 ? 1 : 0;
            for (long power = rest; power >= 10; power /= 10) {
                length++;
            }
            length++;
            for (int i = length - 1; i >= 0; i--) {
                into[i] = (char) ('0' + rest % 10);
                rest /= 10;
            }
            if (number < 0) {
                into[0] = '-';
            }
            return length;
        }

        /** The value as a number, or NO_NUMBER. */
        long numberOf(long coded) {
            long sort = coded >>> 32;
            if (sort == IS_NUMBER) {
                return (int) coded;
            }
            if (sort != IS_TEXT) {
                return NO_NUMBER;
            }
            return readDigits(copy((int) coded, read), DIGITS, read);
        }

        /** The number that is written in a row, with so many digits at most, or NO_NUMBER. */
        static long readDigits(int length, int most, char[] from) {
            int start = length > 0 && from.length > 0 && from[0] == '-' ? 1 : 0;
            if (length <= start || length - start > most) {
                return NO_NUMBER;
            }
            long number = 0;
            for (int i = start; i < length && i < from.length; i++) {
                if (from[i] < '0' || from[i] > '9') {
                    return NO_NUMBER;
                }
                number = number * 10 + (from[i] - '0');
            }
            return start == 1 ? -number : number;
        }
    }

    /** What the kinds do with values; each answer is 'v' with a result, 'f' without one, or an error. */
    private static final class Operations {
        private final Texts texts;
        private final char[] left = new char[MOST_LETTERS];
        private final char[] right = new char[MOST_LETTERS];
        private final char[] joined = new char[2 * MOST_LETTERS];
        private long result;
        private int low;
        private int high;
        private boolean isTraced;

        Operations(Texts texts) {
            this.texts = texts;
        }

        long result() {
            return result;
        }

        /** The kinds with one value at most for a value of each part: the first, for '[' a second, and the last. */
        char work(char kind, long first, long second, long last) {
            if (kind == '.' || kind == '~') {
                return join(kind, first, last);
            }
            if (kind == '[') {
                return slice(first, second, last);
            }
            long one = texts.numberOf(first);
            long other = texts.numberOf(last);
            if (one == Texts.NO_NUMBER || other == Texts.NO_NUMBER) {
                return 'f';
            }
            return calculate(kind, one, other);
        }

        private char calculate(char kind, long one, long other) {
            long answer = other;
            switch (kind) {
                case '+':
                    answer = one + other;
                    break;
                case '-':
                    answer = one - other;
                    break;
                case '*':
                    answer = one * other;
                    break;
                case '/':
                    if (other == 0) {
                        return 'z';
                    }
                    answer = one / other;
                    break;
                case '<':
                    if (one >= other) {
                        return 'f';
                    }
                    break;
                default:
                    if (one != other) {
                        return 'f';
                    }
                    break;
            }
            result = coded(IS_NUMBER, (int) answer);
            return 'v';
        }

        // ---- what numbers are of use to the expression around the one that gives them

        int low() {
            return low;
        }

        int high() {
            return high;
        }

        /** Whether the last one of numbers that are of no use leaves a trace, so that it has to be given. */
        boolean isTraced() {
            return isTraced;
        }

        void expectAll() {
            expect(LEAST_NUMBER, MOST_NUMBER, false);
        }

        private void expectNone() {
            expect(MOST_NUMBER, LEAST_NUMBER, false);
        }

        private void expect(long least, long most, boolean traced) {
            long from = Math.max(least, LEAST_NUMBER);
            long to = Math.min(most, MOST_NUMBER);
            low = from <= to ? (int) from : MOST_NUMBER;
            high = from <= to ? (int) to : LEAST_NUMBER;
            isTraced = traced;
        }

        /**
         * Finds which numbers of a part are of use, if those from least to most are of the expression itself: behind
         * any other one the part is gone back into at once, without a step, an error or a change but the last's trace.
         */
        void expectOf(int expression, int part, long one, int least, int most, boolean traced) {
            char kind = texts.program.kindOf(expression);
            expectAll();
            switch (kind) {
                case '|': case 'u': case 'S':
                    expect(least, most, traced);
                    break;
                case ':': case 'r':
                    expect(least, most, true);
                    break;
                case '&': case ';': case 'i': case 's':
                    if (part > 1) {
                        expect(least, most, traced);
                    }
                    break;
                case 'e': case 'w':
                    if (part == 3) {
                        expect(least, most, traced);
                    } else if (kind == 'e' && part == 1 && texts.program.partOf(expression, 2) == NONE) {
                        expectNone();
                    }
                    break;
                case 'T': case 'm': case 'P': case '[':
                    if (kind != '[' || part == 3) {
                        expect(-MOST_LETTERS - 1, MOST_LETTERS + 1, false);
                    }
                    break;
                case 'l':
                    if (part == 1) {
                        expect(1, MOST_NUMBER, false);
                    }
                    break;
                case '+': case '-': case '<': case '=': case 't': case '~':
                    if (part == 2) {
                        expectSecond(kind, one, least, most, traced);
                    }
                    break;
                default:
                    break;
            }
        }

        /** Of the second part of a kind that uses it with each value of the first one. */
        private void expectSecond(char kind, long first, int least, int most, boolean traced) {
            // the text of an int has a digit more than a text may have that is used as a number
            long one = kind == '~' ? Texts.readDigits(texts.load(first, left), Texts.DIGITS + 1, left)
                    : texts.numberOf(first);
            if (one == Texts.NO_NUMBER) {
                expectNone();
            } else if (kind == '~') {
                expect(one, one, false);
            } else if (kind == '+') {
                expectMoved(least - one, most - one, traced);
            } else if (kind == '-') {
                expectMoved(one - most, one - least, traced);
            } else {
                // what the expression has given leaves the trace, even if it is of no use
                long from = kind == '<' ? one + 1 : one;
                long to = kind == '=' ? one : MOST_NUMBER;
                if (!traced) {
                    from = Math.max(from, least);
                    to = kind == 't' && from <= most ? to : Math.min(to, most);
                }
                expect(from, to, false);
            }
        }

        /** Of a sum or a difference, which wraps around. */
        private void expectMoved(long from, long to, boolean traced) {
            long turn = to < LEAST_NUMBER ? LOWER + 1 : from > MOST_NUMBER ? -LOWER - 1 : 0;
            if (from > to || from + turn >= LEAST_NUMBER && to + turn <= MOST_NUMBER) {
                expect(from + turn, to + turn, traced);
            }
        }

        /** The next number from this one on that a 't' gives, or one that is more than its last. */
        static long counted(long from, long last, int least, int most, boolean traced) {
            if (from > last || from >= least && from <= most) {
                return from;
            }
            if (from < least && least <= most) {
                return traced ? Math.min(least - 1L, last) : least;
            }
            return traced ? last : last + 1;
        }

        // ---- texts

        /** '.' and '~'. */
        private char join(char kind, long a, long b) {
            int length = texts.load(a, left);
            int more = texts.load(b, right);
            if (length < 0 || more < 0) {
                return 'f';
            }
            if (kind == '~') {
                if (!isSame(left, length, right, more)) {
                    return 'f';
                }
                result = b >>> 32 == IS_TEXT ? b : texts.keep(right, 0, more);
                return 'v';
            }
            if (length + more > MOST_LETTERS) {
                return 'o';
            }
            System.arraycopy(left, 0, joined, 0, length);
            System.arraycopy(right, 0, joined, length, more);
            result = texts.keep(joined, 0, length + more);
            return 'v';
        }

        static boolean isSame(char[] one, int length, char[] other, int otherLength) {
            if (length != otherLength || length > one.length || length > other.length) {
                return false;
            }
            for (int i = 0; i < length; i++) {
                if (one[i] != other[i]) {
                    return false;
                }
            }
            return true;
        }

        /** The text of a between two places of it. */
        private char slice(long a, long b, long c) {
            int length = texts.load(a, left);
            int from = toldPlace(texts.numberOf(b), length);
            int to = toldPlace(texts.numberOf(c), length);
            if (length < 0 || from == 0 || to == 0) {
                return 'f';
            }
            result = texts.keep(left, Math.min(from, to) - 1, Math.abs(to - from));
            return 'v';
        }

        /** The value as a text, for a new subject. */
        char asText(long a) {
            if (sortOf(a) == IS_TEXT) {
                result = a;
                return 'v';
            }
            int length = texts.load(a, left);
            if (length < 0) {
                return 'f';
            }
            result = texts.keep(left, 0, length);
            return 'v';
        }

        /** The place that is told from either end of a text of this length, or 0. */
        private static int toldPlace(long told, int length) {
            return told == Texts.NO_NUMBER ? 0 : reached(told > 0 ? told : length + 1 + told, length);
        }

        private static int reached(long place, int length) {
            return place >= 1 && place <= length + 1 ? (int) place : 0;
        }

        /** The place that 'T' or 'm' goes to, or 0. */
        int goal(char kind, long a, long subject, int place) {
            long told = texts.numberOf(a);
            int length = texts.load(subject, right);
            if (kind == 'T' || told == Texts.NO_NUMBER) {
                return toldPlace(told, length);
            }
            return reached(place + told, length);
        }

        /** The text of the subject between two places. */
        long between(long subject, int from, int to) {
            int length = texts.load(subject, right);
            if (from < 1 || to < 1 || from > length + 1 || to > length + 1) {
                return Texts.EMPTY;
            }
            return texts.keep(right, Math.min(from, to) - 1, Math.abs(to - from));
        }

        /** The place that 'P', 'A', 'M' or 'H' gives, or 0. */
        int match(char kind, long a, long subject, int place) {
            int length = texts.load(subject, right);
            if (kind == 'P') {
                return toldPlace(texts.numberOf(a), length) == place ? place : 0;
            }
            int size = texts.load(a, left);
            if (size < 0) {
                return 0;
            }
            if (kind == 'H') {
                return begins(size, length, place) ? place + size : 0;
            }
            int behind = place;
            int most = kind == 'A' ? place + 1 : length + 1;
            while (behind < most && behind <= length && holds(size, behind)) {
                behind++;
            }
            return behind > place ? behind : 0;
        }

        /** The next place that 'U' or 'F' gives, from this one on, or 0. */
        int seek(char kind, long a, long subject, int from) {
            int length = texts.load(subject, right);
            int size = texts.load(a, left);
            if (size < 0 || from < 1) {
                return 0;
            }
            for (int place = from; place <= length + 1; place++) {
                if (kind == 'F' ? begins(size, length, place) : place <= length && holds(size, place)) {
                    return place;
                }
            }
            return 0;
        }

        /** Whether the text on the left has the character of the subject, which is on the right. */
        private boolean holds(int size, int place) {
            if (place < 1 || place > right.length) {
                return false;
            }
            for (int i = 0; i < size && i < left.length; i++) {
                if (left[i] == right[place - 1]) {
                    return true;
                }
            }
            return false;
        }

        private boolean begins(int size, int length, int place) {
            if (place < 1 || size > left.length || length > right.length || size > length + 1 - place) {
                return false;
            }
            for (int i = 0; i < size; i++) {
                if (left[i] != right[place - 1 + i]) {
                    return false;
                }
            }
            return true;
        }
    }

    /** An expression that a run or a life has begun and may go back into. */
    private static final class Node {
        private int expression;
        private char kind;
        private Node parent;
        private int part;
        private Frame frame;
        private Node first;
        private Node second;
        private Node third;
        /** In a call: the 'S' that gave its last value. */
        private Node waiting;
        private long one;
        private long two;
        private int x;
        private int y;
        /** Which numbers are of use to the parent, and whether the last one of others leaves a trace. */
        private int low;
        private int high;
        private boolean isTraced;
        private boolean marked;
        private Node pending;

        void hold(int number, Node child) {
            if (number == 1) {
                first = child;
            } else if (number == 2) {
                second = child;
            } else {
                third = child;
            }
        }

        Node latest() {
            return third != null ? third : second != null ? second : first;
        }
    }

    /** The variables of a procedure that was called, or of a run or a life itself, which no call is of. */
    private static final class Frame {
        private final long[] variables = new long[VARIABLES];
        private Node call;
        private Frame caller;
        private int depth;
        private boolean marked;

        void reset(Node newCall, Frame newCaller) {
            for (int i = 0; i < variables.length; i++) {
                variables[i] = 0;
            }
            call = newCall;
            caller = newCaller;
            depth = newCaller == null ? 0 : newCaller.depth + 1;
            marked = false;
        }

        long get(int variable) {
            return variable >= 0 && variable < variables.length ? variables[variable] : 0;
        }

        void set(int variable, long coded) {
            if (variable >= 0 && variable < variables.length) {
                variables[variable] = coded;
            }
        }
    }

    /** An expression with variables, a subject and a place of its own: a life, or the run. */
    private static final class Life {
        private final int index;
        private final long[] copied = new long[VARIABLES];
        private int expression;
        private long copiedSubject;
        private int copiedPlace;
        private boolean begun;
        private boolean ended;
        private Frame frame;
        private Node root;
        private long subject;
        private int place;
        /** While it is asked: the '@' that asks, and the life that this is in. */
        private Node asker;
        private Life outer;
        private int level;
        private boolean marked;
        private Life pending;

        Life(int index) {
            this.index = index;
        }

        void reset(int newExpression, long newSubject, int newPlace) {
            expression = newExpression;
            copiedSubject = newSubject;
            copiedPlace = newPlace;
            begun = false;
            ended = false;
            frame = null;
            root = null;
            subject = newSubject;
            place = newPlace;
            asker = null;
            outer = null;
            level = 0;
            marked = false;
            pending = null;
            for (int i = 0; i < copied.length; i++) {
                copied[i] = 0;
            }
        }

        void copyVariables(long[] from) {
            if (from.length == copied.length) {
                System.arraycopy(from, 0, copied, 0, copied.length);
            }
        }
    }

    /** Nodes, frames and lives, which are used again when nothing can reach them any more. */
    private static final class Heap {
        private static final int AT_FIRST = 512;
        private static final int MOST_FOLLOWED = 1 << 30;

        private final Texts texts;
        private final ArrayList<Node> nodes = new ArrayList<Node>();
        private final ArrayList<Frame> frames = new ArrayList<Frame>();
        private final ArrayList<Life> lives = new ArrayList<Life>();
        private int nodesUsed;
        private int framesUsed;
        private int livesUsed;
        private int taken;
        private int limit = AT_FIRST;
        private Life spareLife;
        private Node pendingNode;
        private Life pendingLife;

        Heap(Texts texts) {
            this.texts = texts;
        }

        void clear() {
            nodesUsed = 0;
            framesUsed = 0;
            livesUsed = 0;
            taken = 0;
            limit = AT_FIRST;
            spareLife = null;
            pendingNode = null;
            pendingLife = null;
        }

        boolean isTight() {
            return taken >= limit;
        }

        Node takeNode(int expression, char kind, Frame frame) {
            Node node;
            if (nodesUsed < nodes.size()) {
                node = nodes.get(nodesUsed);
            } else {
                node = new Node();
                nodes.add(node);
            }
            nodesUsed++;
            taken++;
            node.expression = expression;
            node.kind = kind;
            node.frame = frame;
            node.parent = null;
            node.part = 0;
            node.first = null;
            node.second = null;
            node.third = null;
            node.waiting = null;
            node.one = 0;
            node.two = 0;
            node.x = 0;
            node.y = 0;
            node.marked = false;
            return node;
        }

        Frame takeFrame(Node call, Frame caller) {
            Frame frame;
            if (framesUsed < frames.size()) {
                frame = frames.get(framesUsed);
            } else {
                frame = new Frame();
                frames.add(frame);
            }
            framesUsed++;
            taken++;
            frame.reset(call, caller);
            return frame;
        }

        Life takeLife(int expression, long subject, int place) {
            Life life = spareLife;
            if (life != null) {
                spareLife = life.pending;
            } else if (livesUsed < lives.size()) {
                life = lives.get(livesUsed);
                livesUsed++;
            } else {
                life = new Life(lives.size());
                lives.add(life);
                livesUsed = lives.size();
            }
            taken++;
            life.reset(expression, subject, place);
            return life;
        }

        Life lifeOf(long coded) {
            int index = (int) coded;
            boolean there = coded >>> 32 == IS_LIFE && index >= 0 && index < livesUsed
                    && index < lives.size();
            return there ? lives.get(index) : null;
        }

        void reachNode(Node node) {
            if (node != null && !node.marked) {
                node.marked = true;
                node.pending = pendingNode;
                pendingNode = node;
            }
        }

        void reachLife(Life life) {
            if (life != null && !life.marked) {
                life.marked = true;
                life.pending = pendingLife;
                pendingLife = life;
            }
        }

        void reachValue(long coded) {
            reachLife(lifeOf(coded));
            texts.mark(coded);
        }

        private void reachFrame(Frame frame) {
            if (frame != null && !frame.marked) {
                frame.marked = true;
                reachRow(frame.variables);
            }
        }

        private void reachRow(long[] row) {
            for (int i = 0; i < row.length; i++) {
                reachValue(row[i]);
            }
        }

        /** Goes on from all that is reached; each thing is pending once at most, so that this ends. */
        void follow() {
            for (int i = 0; i < MOST_FOLLOWED && (pendingNode != null || pendingLife != null); i++) {
                Node node = pendingNode;
                if (node != null) {
                    pendingNode = node.pending;
                    reachNode(node.first);
                    reachNode(node.second);
                    reachNode(node.third);
                    reachNode(node.parent);
                    reachNode(node.waiting);
                    reachFrame(node.frame);
                    reachValue(node.one);
                    reachValue(node.two);
                }
                Life life = pendingLife;
                if (life != null) {
                    pendingLife = life.pending;
                    reachNode(life.root);
                    reachFrame(life.frame);
                    reachValue(life.copiedSubject);
                    reachValue(life.subject);
                    reachRow(life.copied);
                }
            }
        }

        /** Keeps what is marked; nodes and frames that are kept come to stand ahead of the others. */
        void sweep() {
            int kept = 0;
            for (int i = 0; i < nodesUsed && i < nodes.size(); i++) {
                Node node = nodes.get(i);
                if (node.marked) {
                    node.marked = false;
                    nodes.set(i, nodes.get(kept));
                    nodes.set(kept, node);
                    kept++;
                }
            }
            nodesUsed = kept;
            sweepFrames();
            taken = nodesUsed + framesUsed + sweepLives();
            limit = Math.max(AT_FIRST, taken + taken / 2);
        }

        private void sweepFrames() {
            int kept = 0;
            for (int i = 0; i < framesUsed && i < frames.size(); i++) {
                Frame frame = frames.get(i);
                if (frame.marked) {
                    frame.marked = false;
                    frames.set(i, frames.get(kept));
                    frames.set(kept, frame);
                    kept++;
                }
            }
            framesUsed = kept;
        }

        private int sweepLives() {
            int kept = 0;
            spareLife = null;
            for (int i = 0; i < livesUsed && i < lives.size(); i++) {
                Life life = lives.get(i);
                if (life.marked) {
                    life.marked = false;
                    kept++;
                } else {
                    life.pending = spareLife;
                    spareLife = life;
                }
            }
            return kept;
        }
    }

    /** The first way: a tree of what is begun, in which the latest place is gone back to. */
    private static final class Machine {
        private static final int START = 0;
        private static final int BACK = 1;
        private static final int GIVE = 2;
        private static final int FAIL = 3;
        /** A place for the error, and in the run and each life that is asked the calls and the '@'. */
        private static final int MOST_CHAINED = 1 + (MOST_ASKED + 1) * (MOST_WITHIN + 1);

        private final Program program;
        private final Texts texts;
        private final Operations operations;
        private final Heap heap;
        private final Life run;
        private final int[] chain = new int[MOST_CHAINED];
        private final long mostMoves;
        private Life current;
        private int move;
        private Node at;
        private long given;
        private char outcome;
        private char ended;
        private char problem;
        private int chained;
        private int stepsLeft;

        Machine(Program program, long mostMoves) {
            this.program = program;
            this.mostMoves = mostMoves;
            texts = new Texts(program);
            operations = new Operations(texts);
            heap = new Heap(texts);
            run = new Life(NONE);
            current = run;
        }

        void prepare(int expression) {
            heap.clear();
            texts.clear();
            run.reset(expression, Texts.EMPTY, 1);
            current = run;
            at = null;
            given = 0;
            ended = 0;
            problem = 0;
            chained = 0;
            stepsLeft = 0;
        }

        void allow(int steps) {
            stepsLeft = steps;
        }

        int stepsLeft() {
            return stepsLeft;
        }

        Texts texts() {
            return texts;
        }

        /** The last value, or 0 if there is none. */
        long last() {
            return given;
        }

        char ended() {
            return ended;
        }

        char problem() {
            return problem;
        }

        int chained() {
            return chained;
        }

        int chainAt(int index) {
            return index >= 0 && index < chain.length ? chain[index] : NONE;
        }

        long ownVariable(int variable) {
            return run.frame == null ? 0 : run.frame.get(variable);
        }

        long ownSubject() {
            return run.subject;
        }

        int ownPlace() {
            return run.place;
        }

        char ask() {
            if (ended != 0) {
                return ended;
            }
            outcome = 0;
            given = 0;
            enter(run);
            for (long moves = 0; moves < mostMoves && outcome == 0; moves++) {
                if (heap.isTight() || texts.isTight()) {
                    collect();
                }
                Node node = at;
                if (node == null || node.frame == null || current == null) {
                    // there is always a place to go on from
                    stop('l', null);
                } else if (move == START) {
                    start(node);
                } else if (move == BACK) {
                    goBack(node);
                } else if (move == GIVE) {
                    take(node.parent, node.part, given);
                } else {
                    lose(node.parent, node.part);
                }
            }
            if (outcome == 0) {
                stop('l', at);
            }
            if (outcome != 'v') {
                ended = outcome;
                given = 0;
            }
            return outcome;
        }

        private void collect() {
            heap.reachLife(run);
            // a life is asked within at most MOST_ASKED others
            Life life = current;
            for (int i = 0; i <= MOST_ASKED && life != null; i++) {
                heap.reachLife(life);
                life = life.outer;
            }
            heap.reachNode(at);
            heap.reachValue(given);
            heap.follow();
            heap.sweep();
            texts.sweep();
            run.marked = false;
        }

        // ---- where the machine goes next

        private void give(Node node, long coded) {
            move = GIVE;
            at = node;
            given = coded;
        }

        private void giveNumber(Node node, int number) {
            give(node, coded(IS_NUMBER, number));
        }

        private void fail(Node node) {
            move = FAIL;
            at = node;
        }

        /** Goes back into the part that was begun last, if there is one. */
        private void retreat(Node node) {
            Node part = node.latest();
            if (part == null) {
                fail(node);
            } else {
                move = BACK;
                at = part;
            }
        }

        private void open(Node node, int part) {
            openIn(node, part, program.partOf(node.expression, part), node.frame);
        }

        private void openIn(Node node, int part, int expression, Frame frame) {
            Node child = heap.takeNode(expression, program.kindOf(expression), frame);
            child.parent = node;
            child.part = part;
            node.hold(part, child);
            move = START;
            at = child;
        }

        private boolean isTold(Node node, int part) {
            return program.partOf(node.expression, part) != NONE;
        }

        private void stop(char error, Node where) {
            outcome = 'e';
            problem = error;
            chained = 0;
            if (where == null) {
                return;
            }
            Node node = where;
            Life life = current;
            for (int i = 0; i <= MOST_ASKED && node != null; i++) {
                note(node.expression);
                for (Frame frame = node.frame; frame != null && frame.call != null; frame = frame.caller) {
                    note(frame.call.expression);
                }
                node = life == null ? null : life.asker;
                life = life == null ? null : life.outer;
            }
        }

        private void note(int expression) {
            if (chained >= 0 && chained < chain.length) {
                chain[chained] = expression;
                chained++;
            }
        }

        // ---- the run and its lives

        private void enter(Life life) {
            current = life;
            if (life.begun) {
                move = BACK;
                at = life.root;
                return;
            }
            life.begun = true;
            life.frame = heap.takeFrame(null, null);
            for (int i = 0; i < VARIABLES && i < life.copied.length; i++) {
                life.frame.set(i, life.copied[i]);
            }
            life.root = heap.takeNode(life.expression, program.kindOf(life.expression), life.frame);
            move = START;
            at = life.root;
        }

        /** The root of the run, or of a life, has given a value. */
        private void takeFromRoot(long coded) {
            Node asker = leaveLife();
            if (asker == null) {
                outcome = 'v';
            } else {
                give(asker, coded);
            }
        }

        private void loseRoot() {
            if (current != null) {
                current.ended = true;
                current.root = null;
            }
            Node asker = leaveLife();
            if (asker == null) {
                outcome = 'f';
            } else {
                retreat(asker);
            }
        }

        /** Goes from a life to the '@' that asked it; there is none for the run. */
        private Node leaveLife() {
            Life life = current;
            if (life == null || life.asker == null) {
                return null;
            }
            Node asker = life.asker;
            current = life.outer;
            life.asker = null;
            life.outer = null;
            return asker;
        }

        private void makeLife(Node node) {
            Life life = heap.takeLife(program.partOf(node.expression, 1), current.subject, current.place);
            life.copyVariables(node.frame.variables);
            give(node, coded(IS_LIFE, life.index));
        }

        private void askLife(Node node, long coded) {
            Life life = heap.lifeOf(coded);
            if (life == null) {
                stop('t', node);
            } else if (current.level >= MOST_ASKED) {
                stop('d', node);
            } else if (life.ended) {
                retreat(node);
            } else {
                life.asker = node;
                life.outer = current;
                life.level = current.level + 1;
                enter(life);
            }
        }

        private void renewLife(Node node, long coded) {
            Life old = heap.lifeOf(coded);
            if (old == null) {
                stop('t', node);
                return;
            }
            Life life = heap.takeLife(old.expression, old.copiedSubject, old.copiedPlace);
            life.copyVariables(old.copied);
            give(node, coded(IS_LIFE, life.index));
        }

        // ---- an expression is begun

        private void start(Node node) {
            if (stepsLeft <= 0) {
                stop('l', node);
                return;
            }
            stepsLeft--;
            expect(node);
            int amount = program.amountOf(node.expression);
            switch (node.kind) {
                case NUMBER:
                    giveNumber(node, amount);
                    break;
                case TEXT:
                    give(node, coded(IS_TEXT, -1 - node.expression));
                    break;
                case VARIABLE:
                    readVariable(node, amount);
                    break;
                case 'q':
                    give(node, current.subject);
                    break;
                case 'p':
                    giveNumber(node, current.place);
                    break;
                case 'x': case 'y':
                    swap(node, amount, program.otherOf(node.expression));
                    break;
                case 'c':
                    makeLife(node);
                    break;
                case 'n':
                    goOn(node);
                    break;
                case 'b':
                    leaveLoop(node);
                    break;
                case 'S': case 'R': case 'f':
                    if (node.frame.call == null) {
                        stop('b', node);
                    } else if (isTold(node, 1)) {
                        open(node, 1);
                    } else {
                        endProcedure(node);
                    }
                    break;
                default:
                    open(node, 1);
                    break;
            }
        }

        /** Which numbers are of use to the parent; those of 'S' go to the one that its procedure's call is in. */
        private void expect(Node node) {
            Node parent = node.parent;
            if (parent == null) {
                operations.expectAll();
            } else {
                Node call = parent.frame.call;
                Node giver = parent.kind == 'S' && call != null ? call : parent;
                operations.expectOf(parent.expression, node.part, parent.one, giver.low, giver.high, giver.isTraced);
            }
            node.low = operations.low();
            node.high = operations.high();
            node.isTraced = operations.isTraced();
        }

        private void readVariable(Node node, int variable) {
            long coded = node.frame.get(variable);
            if (coded == 0) {
                stop('x', node);
            } else {
                give(node, coded);
            }
        }

        private void swap(Node node, int variable, int other) {
            node.one = node.frame.get(variable);
            node.two = node.frame.get(other);
            if (node.one == 0 || node.two == 0) {
                stop('x', node);
                return;
            }
            node.frame.set(variable, node.two);
            node.frame.set(other, node.one);
            give(node, node.frame.get(variable));
        }

        // ---- an expression is gone back into

        private void goBack(Node node) {
            int variable = program.amountOf(node.expression);
            switch (node.kind) {
                case 'u':
                    node.frame.set(variable, node.one);
                    retreat(node);
                    break;
                case 'y':
                    node.frame.set(variable, node.one);
                    node.frame.set(program.otherOf(node.expression), node.two);
                    fail(node);
                    break;
                case 'T': case 'm':
                    current.place = node.x;
                    retreat(node);
                    break;
                case 't':
                    count(node, node.x + 1L);
                    break;
                case 'U': case 'F':
                    goOnSeeking(node);
                    break;
                case 's':
                    enterScan(node);
                    retreat(node);
                    break;
                case CALL:
                    goBackIntoCall(node);
                    break;
                default:
                    retreat(node);
                    break;
            }
        }

        private void count(Node node, long from) {
            long next = Operations.counted(from, node.y, node.low, node.high, node.isTraced);
            if (next > node.y) {
                retreat(node);
            } else {
                node.x = (int) next;
                giveNumber(node, node.x);
            }
        }

        private void goOnSeeking(Node node) {
            int place = operations.seek(node.kind, node.one, current.subject, node.x);
            if (place == 0) {
                retreat(node);
            } else {
                node.x = place + 1;
                giveNumber(node, place);
            }
        }

        private void goBackIntoCall(Node node) {
            Node waiting = node.waiting;
            node.waiting = null;
            if (waiting == null) {
                retreat(node);
                return;
            }
            Node scan = scanAround(waiting, node);
            if (scan != null) {
                enterScan(scan);
            }
            retreat(waiting);
        }

        // ---- a part has a value

        private void take(Node node, int part, long coded) {
            if (node == null) {
                takeFromRoot(coded);
                return;
            }
            switch (node.kind) {
                case '|':
                    give(node, coded);
                    break;
                case '&':
                    giveOrOpen(node, part, coded);
                    break;
                case ';': case 'i':
                    node.first = null;
                    giveOrOpen(node, part, coded);
                    break;
                case '!':
                    fail(node);
                    break;
                case 'r':
                    node.x = 1;
                    give(node, coded);
                    break;
                case 'l':
                    limit(node, part, coded);
                    break;
                case ':': case 'u':
                    set(node, coded);
                    break;
                case 'e': case 'w':
                    loop(node, part, coded);
                    break;
                case 's':
                    scan(node, part, coded);
                    break;
                case CALL:
                    takeArgument(node, part, coded);
                    break;
                case '+': case '-': case '*': case '/': case '<': case '=': case '.': case '~': case 't': case '[':
                    takeOperand(node, part, coded);
                    break;
                default:
                    takeOnly(node, coded);
                    break;
            }
        }

        /** The other kinds with an only part. */
        private void takeOnly(Node node, long coded) {
            switch (node.kind) {
                case 'T': case 'm':
                    travel(node, coded);
                    break;
                case 'U': case 'F':
                    node.one = coded;
                    node.x = current.place;
                    goOnSeeking(node);
                    break;
                case 'S':
                    suspend(node, coded);
                    break;
                case 'R':
                    endWith(node, coded);
                    break;
                case '@':
                    askLife(node, coded);
                    break;
                case '^':
                    renewLife(node, coded);
                    break;
                default:
                    match(node, coded);
                    break;
            }
        }

        private void giveOrOpen(Node node, int part, long coded) {
            if (part == 1) {
                open(node, 2);
            } else {
                give(node, coded);
            }
        }

        private void limit(Node node, int part, long coded) {
            if (part == 2) {
                node.x--;
                if (node.x <= 0) {
                    // nothing more is asked of what the first values are taken of
                    node.second = null;
                }
                give(node, coded);
                return;
            }
            long most = texts.numberOf(coded);
            if (most == Texts.NO_NUMBER || most <= 0) {
                retreat(node);
            } else {
                node.x = (int) most;
                open(node, 2);
            }
        }

        private void set(Node node, long coded) {
            int variable = program.amountOf(node.expression);
            node.one = node.frame.get(variable);
            node.frame.set(variable, coded);
            give(node, coded);
        }

        private void travel(Node node, long coded) {
            int goal = operations.goal(node.kind, coded, current.subject, current.place);
            if (goal == 0) {
                retreat(node);
                return;
            }
            node.x = current.place;
            current.place = goal;
            give(node, operations.between(current.subject, node.x, goal));
        }

        private void match(Node node, long coded) {
            int place = operations.match(node.kind, coded, current.subject, current.place);
            if (place == 0) {
                retreat(node);
            } else {
                giveNumber(node, place);
            }
        }

        /** The kinds that need a value of each part. */
        private void takeOperand(Node node, int part, long coded) {
            if (part == 1) {
                node.one = coded;
                open(node, 2);
            } else if (node.kind == 't') {
                startCounting(node, coded);
            } else if (node.kind == '[' && part == 2) {
                node.two = coded;
                open(node, 3);
            } else {
                char answer = operations.work(node.kind, node.one, node.two, coded);
                if (answer == 'v') {
                    give(node, operations.result());
                } else if (answer == 'f') {
                    retreat(node);
                } else {
                    stop(answer, node);
                }
            }
        }

        private void startCounting(Node node, long coded) {
            long from = texts.numberOf(node.one);
            long to = texts.numberOf(coded);
            if (from == Texts.NO_NUMBER || to == Texts.NO_NUMBER) {
                retreat(node);
            } else {
                node.y = (int) to;
                count(node, from);
            }
        }

        // ---- a part has no more values

        private void lose(Node node, int part) {
            if (node == null) {
                loseRoot();
                return;
            }
            node.hold(part, null);
            switch (node.kind) {
                case '|': case ';':
                    openOrFail(node, part == 1, 2);
                    break;
                case 'i':
                    openOrFail(node, part == 1 && isTold(node, 3), 3);
                    break;
                case '!':
                    giveNumber(node, 0);
                    break;
                case 'r':
                    openOrFail(node, node.x == 1, 1);
                    node.x = 0;
                    break;
                case 'w':
                    openOrFail(node, part == 2, 1);
                    break;
                case 's':
                    if (part == 2) {
                        leaveScan(node);
                    }
                    retreat(node);
                    break;
                case 'R':
                    endProcedure(node);
                    break;
                default:
                    retreat(node);
                    break;
            }
        }

        private void openOrFail(Node node, boolean isOpened, int part) {
            if (isOpened) {
                open(node, part);
            } else {
                fail(node);
            }
        }

        // ---- loops

        /** A value of a loop's a or b; or of the a of a 'b' that has left it, which is its third part. */
        private void loop(Node node, int part, long coded) {
            if (part == 3) {
                give(node, coded);
                return;
            }
            if (node.kind == 'w') {
                node.first = null;
                node.second = null;
                open(node, part == 1 && isTold(node, 2) ? 2 : 1);
            } else if (part == 1 && isTold(node, 2)) {
                open(node, 2);
            } else {
                node.second = null;
                retreat(node);
            }
        }

        /** The innermost loop around the expression in its procedure, or null. */
        private Node loopAround(Node inner) {
            for (Node node = inner; node.parent != null; node = node.parent) {
                Node around = node.parent;
                if (around.kind == CALL && node.part == 3) {
                    return null;
                }
                if ((around.kind == 'e' || around.kind == 'w') && node.part != 3) {
                    return around;
                }
            }
            return null;
        }

        private void leaveLoop(Node node) {
            Node loop = loopAround(node);
            if (loop == null) {
                stop('b', node);
                return;
            }
            leaveScans(node, loop);
            loop.first = null;
            loop.second = null;
            if (isTold(node, 1)) {
                openIn(loop, 3, program.partOf(node.expression, 1), loop.frame);
            } else {
                fail(loop);
            }
        }

        private void goOn(Node node) {
            Node loop = loopAround(node);
            if (loop == null) {
                stop('b', node);
            } else if (loop.kind == 'w') {
                leaveScans(node, loop);
                loop.first = null;
                loop.second = null;
                open(loop, 1);
            } else if (loop.second != null) {
                leaveScans(node, loop);
                loop.second = null;
                retreat(loop);
            } else {
                // the next value of a comes from the latest place in it, as behind any failing
                fail(node);
            }
        }

        // ---- scanning

        private void scan(Node node, int part, long coded) {
            if (part == 2) {
                keepInside(node);
                leaveScan(node);
                give(node, coded);
                return;
            }
            if (operations.asText(coded) != 'v') {
                retreat(node);
                return;
            }
            node.one = current.subject;
            node.x = current.place;
            current.subject = operations.result();
            current.place = 1;
            open(node, 2);
        }

        private void keepInside(Node scan) {
            scan.two = current.subject;
            scan.y = current.place;
        }

        private void enterScan(Node scan) {
            current.subject = scan.two;
            current.place = scan.y;
        }

        private void leaveScan(Node scan) {
            current.subject = scan.one;
            current.place = scan.x;
        }

        private void leaveScans(Node inner, Node outer) {
            for (Node node = inner; node != outer && node.parent != null; node = node.parent) {
                if (node.parent.kind == 's' && node.part == 2) {
                    leaveScan(node.parent);
                }
            }
        }

        /** The innermost scanning around the one within the other, or null. */
        private static Node scanAround(Node inner, Node outer) {
            for (Node node = inner; node != outer && node.parent != null; node = node.parent) {
                if (node.parent.kind == 's' && node.part == 2) {
                    return node.parent;
                }
            }
            return null;
        }

        // ---- procedures

        private void takeArgument(Node node, int part, long coded) {
            if (part == 3) {
                node.third = null;
                retreat(node);
            } else if (part == 1 && isTold(node, 2)) {
                node.one = coded;
                open(node, 2);
            } else if (part == 1) {
                invoke(node, coded, 0);
            } else {
                invoke(node, node.one, coded);
            }
        }

        private void invoke(Node node, long first, long second) {
            int body = program.bodyOf(program.amountOf(node.expression));
            if (body == NONE) {
                stop('x', node);
            } else if (node.frame.depth >= MOST_WITHIN) {
                stop('d', node);
            } else {
                Frame frame = heap.takeFrame(node, node.frame);
                frame.set(0, first);
                frame.set(1, second);
                openIn(node, 3, body, frame);
            }
        }

        private void suspend(Node node, long coded) {
            Node call = node.frame.call;
            if (call == null) {
                stop('b', node);
                return;
            }
            Node scan = scanAround(node, call);
            if (scan != null) {
                keepInside(scan);
            }
            leaveScans(node, call);
            call.waiting = node;
            give(call, coded);
        }

        private void endWith(Node node, long coded) {
            Node call = node.frame.call;
            if (call == null) {
                stop('b', node);
                return;
            }
            leaveScans(node, call);
            call.third = null;
            give(call, coded);
        }

        /** Ends the procedure without a value: the call goes back into its parts. */
        private void endProcedure(Node node) {
            Node call = node.frame.call;
            if (call == null) {
                stop('b', node);
                return;
            }
            leaveScans(node, call);
            call.third = null;
            retreat(call);
        }
    }

    /** On the stack of the second way: an expression that is open, or a note of what to do on the way back. */
    private static final class Entry {
        private boolean isNote;
        private char kind;
        private int expression;
        /** Which entry the values are handed on to, as which part of it; for a note, the one that it is of. */
        private int receiver;
        private int part;
        private int room;
        private boolean isLater;
        private long one;
        private long two;
        private int x;
        private int y;
        /** Which numbers are of use to the receiver, and whether the last one of others leaves a trace. */
        private int low;
        private int high;
        private boolean isTraced;
        /** How many expressions are open, and how many rooms are used, with this entry on top. */
        private int open;
        private int rooms;
    }

    /** The variables of each procedure that is open in the second way, in rooms one behind the other. */
    private static final class Rooms {
        private static final int MOST = MOST_OPEN + 2;

        private final long[] variables = new long[MOST * VARIABLES];
        private final int[] calls = new int[MOST];
        private final int[] depths = new int[MOST];
        private int used;

        int used() {
            return used;
        }

        /** Uses so many rooms again as were used at another time. */
        void useAgain(int many) {
            used = Math.max(0, Math.min(many, MOST));
        }

        /** Takes a room for a call in another room, both NONE for the run itself; answers NONE if all are used. */
        int take(int call, int caller) {
            if (used < 0 || used >= MOST) {
                return NONE;
            }
            int room = used;
            used++;
            for (int i = 0; i < VARIABLES; i++) {
                variables[room * VARIABLES + i] = 0;
            }
            calls[room] = call;
            depths[room] = caller == NONE ? 0 : depthOf(caller) + 1;
            return room;
        }

        int callOf(int room) {
            return room >= 0 && room < MOST ? calls[room] : NONE;
        }

        int depthOf(int room) {
            return room >= 0 && room < MOST ? depths[room] : 0;
        }

        long get(int room, int variable) {
            return isThere(room, variable) ? variables[room * VARIABLES + variable] : 0;
        }

        void set(int room, int variable, long coded) {
            if (isThere(room, variable)) {
                variables[room * VARIABLES + variable] = coded;
            }
        }

        private static boolean isThere(int room, int variable) {
            return room >= 0 && room < MOST && variable >= 0 && variable < VARIABLES;
        }

        void mark(Texts texts) {
            for (int i = 0; i < used * VARIABLES && i < variables.length; i++) {
                texts.mark(variables[i]);
            }
        }
    }

    /** The second way: a value is handed on as it is found, and what is above its finder comes back to it. */
    private static final class Handing {
        private static final int START = 0;
        private static final int BACK = 1;
        private static final int GIVE = 2;
        /** Kinds of notes: what is done as they are come back to. */
        private static final char RESTORE_VARIABLE = '1';
        private static final char RESTORE_PLACE = '2';
        private static final char LEAVE_SCAN = '3';
        private static final char ENTER_SCAN = '4';
        private static final char COUNT = '5';
        private static final char SEEK = '6';
        /** An open expression has two notes at most. */
        private static final int HEIGHT = 4 * MOST_OPEN;

        private final Program program;
        private final Texts texts;
        private final Operations operations;
        private final Rooms rooms;
        private final Entry[] stack = new Entry[HEIGHT];
        private final Entry none = new Entry();
        private int root;
        private boolean begun;
        private int height;
        private int openNow;
        private int stepsLeft;
        private long mostMoves;
        private long subject;
        private int place;
        private int move;
        private int at;
        private long given;
        private char outcome;
        private char ended;
        private char problem;

        Handing(Program program) {
            this.program = program;
            texts = new Texts(program);
            operations = new Operations(texts);
            rooms = new Rooms();
            for (int i = 0; i < HEIGHT; i++) {
                stack[i] = new Entry();
            }
        }

        void prepare(int expression, int steps, long moves) {
            texts.clear();
            rooms.useAgain(0);
            root = expression;
            begun = false;
            height = 0;
            openNow = 0;
            stepsLeft = steps;
            mostMoves = moves;
            subject = Texts.EMPTY;
            place = 1;
            given = 0;
            ended = 0;
            problem = 0;
        }

        Texts texts() {
            return texts;
        }

        long last() {
            return given;
        }

        char problem() {
            return problem;
        }

        /** Hands the next value to the caller, whose asking again comes back to the finder. */
        char ask() {
            if (ended != 0) {
                return ended;
            }
            outcome = 0;
            move = BACK;
            if (!begun) {
                begun = true;
                openAs(root, NONE, 0, rooms.take(NONE, NONE));
            }
            for (long moves = 0; moves < mostMoves && outcome == 0; moves++) {
                if (texts.isTight()) {
                    collect();
                }
                Entry entry = entry(move == BACK ? height - 1 : at);
                if (move == START) {
                    start(at, entry);
                } else if (move == GIVE) {
                    take(entry.receiver, entry.part, given);
                } else if (height == 0) {
                    outcome = 'f';
                } else if (entry.isNote) {
                    comeToNote(entry.kind, entry.receiver, entry(entry.receiver));
                } else {
                    lose(height - 1, entry);
                }
            }
            if (outcome == 0) {
                stop('l');
            }
            if (outcome != 'v') {
                ended = outcome;
                given = 0;
            }
            return outcome;
        }

        private void collect() {
            texts.mark(subject);
            texts.mark(given);
            for (int i = 0; i < height && i < HEIGHT; i++) {
                texts.mark(entry(i).one);
                texts.mark(entry(i).two);
            }
            rooms.mark(texts);
            texts.sweep();
        }

        // ---- the stack

        private Entry entry(int index) {
            return index >= 0 && index < HEIGHT ? stack[index] : none;
        }

        /** Leaves all that is on the stack from this height on, and comes back to what is below. */
        private void leave(int first) {
            height = Math.max(0, Math.min(first, height));
            Entry top = entry(height - 1);
            openNow = height == 0 ? 0 : top.open;
            rooms.useAgain(height == 0 ? 1 : top.rooms);
            move = BACK;
        }

        private void pop() {
            leave(height - 1);
        }

        private void note(char kind, int of) {
            if (height >= HEIGHT) {
                stop('d');
                return;
            }
            Entry note = entry(height);
            height++;
            note.isNote = true;
            note.kind = kind;
            note.receiver = of;
            note.one = 0;
            note.two = 0;
            note.open = openNow;
            note.rooms = rooms.used();
        }

        private void open(int index, int part) {
            Entry entry = entry(index);
            openAs(program.partOf(entry.expression, part), index, part, entry.room);
        }

        private void openAs(int expression, int receiver, int part, int room) {
            if (stepsLeft <= 0) {
                stop('l');
                return;
            }
            if (openNow >= MOST_OPEN || height >= HEIGHT || room == NONE) {
                stop('d');
                return;
            }
            stepsLeft--;
            openNow++;
            at = height;
            move = START;
            Entry entry = entry(height);
            height++;
            entry.isNote = false;
            entry.kind = program.kindOf(expression);
            entry.expression = expression;
            entry.receiver = receiver;
            entry.part = part;
            entry.room = room;
            entry.isLater = false;
            entry.one = 0;
            entry.two = 0;
            entry.x = 0;
            entry.y = 0;
            entry.open = openNow;
            entry.rooms = rooms.used();
        }

        private void stop(char error) {
            outcome = 'e';
            problem = error;
        }

        private void give(int index, long coded) {
            move = GIVE;
            at = index;
            given = coded;
        }

        private void giveNumber(int index, int number) {
            give(index, coded(IS_NUMBER, number));
        }

        private void giveOrComeBack(int index, int number) {
            if (number == 0) {
                move = BACK;
            } else {
                giveNumber(index, number);
            }
        }

        private boolean isTold(int index, int part) {
            return program.partOf(entry(index).expression, part) != NONE;
        }

        private int amountOf(Entry entry) {
            return program.amountOf(entry.expression);
        }

        // ---- an expression is begun

        private void start(int index, Entry entry) {
            expect(entry);
            switch (entry.kind) {
                case NUMBER:
                    giveNumber(index, amountOf(entry));
                    break;
                case TEXT:
                    give(index, coded(IS_TEXT, -1 - entry.expression));
                    break;
                case VARIABLE:
                    readVariable(index, rooms.get(entry.room, amountOf(entry)));
                    break;
                case 'q':
                    give(index, subject);
                    break;
                case 'p':
                    giveNumber(index, place);
                    break;
                case 'x': case 'y':
                    swap(index, entry, amountOf(entry), program.otherOf(entry.expression));
                    break;
                case 'c':
                    stop('t');
                    break;
                case 'n':
                    goOn(index);
                    break;
                case 'b':
                    leaveLoop(index);
                    break;
                case 'S': case 'R': case 'f':
                    if (rooms.callOf(entry.room) == NONE) {
                        stop('b');
                    } else if (isTold(index, 1)) {
                        open(index, 1);
                    } else {
                        endProcedure(index);
                    }
                    break;
                default:
                    open(index, 1);
                    break;
            }
        }

        /** Which numbers are of use to the receiver; those of 'S' go to the one that its procedure's call is in. */
        private void expect(Entry entry) {
            if (entry.receiver == NONE) {
                operations.expectAll();
            } else {
                Entry receiver = entry(entry.receiver);
                Entry giver = receiver.kind == 'S' ? entry(rooms.callOf(receiver.room)) : receiver;
                operations.expectOf(receiver.expression, entry.part, receiver.one, giver.low, giver.high,
                        giver.isTraced);
            }
            entry.low = operations.low();
            entry.high = operations.high();
            entry.isTraced = operations.isTraced();
        }

        private void readVariable(int index, long coded) {
            if (coded == 0) {
                stop('x');
            } else {
                give(index, coded);
            }
        }

        private void swap(int index, Entry entry, int variable, int other) {
            entry.one = rooms.get(entry.room, variable);
            entry.two = rooms.get(entry.room, other);
            if (entry.one == 0 || entry.two == 0) {
                stop('x');
                return;
            }
            rooms.set(entry.room, variable, entry.two);
            rooms.set(entry.room, other, entry.one);
            give(index, entry.two);
        }

        // ---- the entry on top is come back to

        private void comeToNote(char kind, int index, Entry of) {
            switch (kind) {
                case RESTORE_VARIABLE:
                    rooms.set(of.room, amountOf(of), of.one);
                    pop();
                    break;
                case RESTORE_PLACE:
                    place = of.x;
                    pop();
                    break;
                case LEAVE_SCAN:
                    subject = of.one;
                    place = of.x;
                    pop();
                    break;
                case ENTER_SCAN:
                    subject = of.two;
                    place = of.y;
                    pop();
                    break;
                case COUNT:
                    count(index, of, of.x + 1L);
                    break;
                default:
                    goOnSeeking(index, of);
                    break;
            }
        }

        /** Goes on from this number on, with the note of the counting on top. */
        private void count(int index, Entry entry, long from) {
            long next = Operations.counted(from, entry.y, entry.low, entry.high, entry.isTraced);
            if (next > entry.y) {
                leave(height - 1);
            } else {
                entry.x = (int) next;
                giveNumber(index, entry.x);
            }
        }

        private void goOnSeeking(int index, Entry entry) {
            entry.x = operations.seek(entry.kind, entry.one, subject, entry.x + 1);
            if (entry.x == 0) {
                pop();
            } else {
                giveNumber(index, entry.x);
            }
        }

        /** All that is above the entry has come back: it goes on with another part, or is no more open. */
        private void lose(int index, Entry entry) {
            boolean wasLater = entry.isLater;
            entry.isLater = true;
            switch (entry.kind) {
                case '|': case ';':
                    openOrPop(index, !wasLater, 2);
                    break;
                case 'i':
                    openOrPop(index, !wasLater && isTold(index, 3), 3);
                    break;
                case '!':
                    if (wasLater) {
                        pop();
                    } else {
                        giveNumber(index, 0);
                    }
                    break;
                case 'r':
                    openOrPop(index, entry.x == 1, 1);
                    entry.x = 0;
                    break;
                case 'w':
                    entry.isLater = false;
                    openOrPop(index, wasLater, 1);
                    break;
                case 'R':
                    endProcedure(index);
                    break;
                case 'y':
                    rooms.set(entry.room, amountOf(entry), entry.one);
                    rooms.set(entry.room, program.otherOf(entry.expression), entry.two);
                    pop();
                    break;
                default:
                    pop();
                    break;
            }
        }

        private void openOrPop(int index, boolean isOpened, int part) {
            if (isOpened) {
                open(index, part);
            } else {
                pop();
            }
        }

        // ---- a value is handed to the one that has the giver as a part

        private void take(int index, int part, long coded) {
            if (index == NONE) {
                outcome = 'v';
                return;
            }
            Entry entry = entry(index);
            switch (entry.kind) {
                case '|':
                    give(index, coded);
                    break;
                case '&':
                    giveOrOpen(index, part, coded);
                    break;
                case ';': case 'i':
                    takeOfChoice(index, part, coded);
                    break;
                case '!':
                    leave(index);
                    break;
                case 'r':
                    entry.x = 1;
                    give(index, coded);
                    break;
                case 'l':
                    limit(index, part, coded);
                    break;
                case ':': case 'u':
                    set(index, coded);
                    break;
                case 'e': case 'w':
                    loop(index, part);
                    break;
                case 's':
                    scan(index, part, coded);
                    break;
                case CALL:
                    takeArgument(index, part, coded);
                    break;
                case '+': case '-': case '*': case '/': case '<': case '=': case '.': case '~': case 't': case '[':
                    takeOperand(index, part, coded);
                    break;
                default:
                    takeOnly(index, entry, coded);
                    break;
            }
        }

        /** The other kinds with an only part. */
        private void takeOnly(int index, Entry entry, long coded) {
            switch (entry.kind) {
                case 'T': case 'm':
                    travel(index, coded);
                    break;
                case 'U': case 'F':
                    entry.one = coded;
                    entry.x = place - 1;
                    note(SEEK, index);
                    goOnSeeking(index, entry);
                    break;
                case 'S':
                    suspend(index, coded);
                    break;
                case 'R':
                    endWith(index, coded);
                    break;
                case '@': case '^':
                    // there are no lives in this way
                    stop('t');
                    break;
                default:
                    giveOrComeBack(index, operations.match(entry.kind, coded, subject, place));
                    break;
            }
        }

        private void giveOrOpen(int index, int part, long coded) {
            if (part == 1) {
                open(index, 2);
            } else {
                give(index, coded);
            }
        }

        /** A value of a part of ';' or 'i', the first of which is bounded. */
        private void takeOfChoice(int index, int part, long coded) {
            if (part == 1) {
                leave(index + 1);
                entry(index).isLater = true;
                open(index, 2);
            } else {
                give(index, coded);
            }
        }

        private void limit(int index, int part, long coded) {
            Entry entry = entry(index);
            if (part == 2) {
                entry.x--;
                if (entry.x <= 0) {
                    // nothing more is asked of what the first values are taken of
                    leave(entry.y);
                }
                give(index, coded);
                return;
            }
            long most = texts.numberOf(coded);
            if (most == Texts.NO_NUMBER || most <= 0) {
                move = BACK;
            } else {
                entry.x = (int) most;
                entry.y = height;
                open(index, 2);
            }
        }

        private void set(int index, long coded) {
            Entry entry = entry(index);
            entry.one = rooms.get(entry.room, amountOf(entry));
            rooms.set(entry.room, amountOf(entry), coded);
            if (entry.kind == 'u') {
                note(RESTORE_VARIABLE, index);
            }
            give(index, coded);
        }

        private void travel(int index, long coded) {
            Entry entry = entry(index);
            int goal = operations.goal(entry.kind, coded, subject, place);
            if (goal == 0) {
                move = BACK;
                return;
            }
            entry.x = place;
            place = goal;
            note(RESTORE_PLACE, index);
            give(index, operations.between(subject, entry.x, goal));
        }

        private void takeOperand(int index, int part, long coded) {
            Entry entry = entry(index);
            if (part == 1) {
                entry.one = coded;
                open(index, 2);
            } else if (entry.kind == 't') {
                startCounting(index, texts.numberOf(entry.one), texts.numberOf(coded));
            } else if (entry.kind == '[' && part == 2) {
                entry.two = coded;
                open(index, 3);
            } else {
                char answer = operations.work(entry.kind, entry.one, entry.two, coded);
                if (answer == 'v') {
                    give(index, operations.result());
                } else if (answer == 'f') {
                    move = BACK;
                } else {
                    stop(answer);
                }
            }
        }

        private void startCounting(int index, long from, long to) {
            if (from == Texts.NO_NUMBER || to == Texts.NO_NUMBER) {
                move = BACK;
                return;
            }
            Entry entry = entry(index);
            entry.y = (int) to;
            note(COUNT, index);
            count(index, entry, from);
        }

        // ---- loops

        private void loop(int index, int part) {
            Entry entry = entry(index);
            if (entry.kind == 'w') {
                leave(index + 1);
                entry.isLater = part == 1 && isTold(index, 2);
                open(index, entry.isLater ? 2 : 1);
            } else if (part == 1 && isTold(index, 2)) {
                entry.x = height;
                open(index, 2);
            } else if (part == 2) {
                leave(entry.x);
            } else {
                move = BACK;
            }
        }

        /** The entry within the innermost loop around this one in its procedure, as its a or b; or NONE. */
        private int partOfLoop(int index) {
            int inner = index;
            for (int i = 0; i < HEIGHT && entry(inner).receiver != NONE; i++) {
                char kind = entry(entry(inner).receiver).kind;
                if (kind == CALL && entry(inner).part == 3) {
                    return NONE;
                }
                if (kind == 'e' || kind == 'w') {
                    return inner;
                }
                inner = entry(inner).receiver;
            }
            return NONE;
        }

        /** The loop is left with all in it, and its receiver has the values of the a of 'b' instead. */
        private void leaveLoop(int index) {
            int part = partOfLoop(index);
            if (part == NONE) {
                stop('b');
                return;
            }
            int expression = program.partOf(entry(index).expression, 1);
            int loop = entry(part).receiver;
            leaveScans(index, loop);
            leave(loop);
            if (expression != NONE) {
                // a loop that is the body of a procedure is left, but not the procedure
                rooms.useAgain(entry(loop).rooms);
                openAs(expression, entry(loop).receiver, entry(loop).part, entry(loop).room);
            }
        }

        private void goOn(int index) {
            int part = partOfLoop(index);
            if (part == NONE) {
                stop('b');
                return;
            }
            int loop = entry(part).receiver;
            if (entry(loop).kind == 'w') {
                leaveScans(index, loop);
                leave(loop + 1);
                entry(loop).isLater = false;
                open(loop, 1);
            } else if (entry(part).part == 2) {
                leaveScans(index, loop);
                leave(entry(loop).x);
            } else {
                // the next value of a comes from the latest place in it, as behind any failing
                pop();
            }
        }

        // ---- scanning

        private void scan(int index, int part, long coded) {
            Entry entry = entry(index);
            if (part == 2) {
                keepInside(index);
                subject = entry.one;
                place = entry.x;
                give(index, coded);
            } else if (operations.asText(coded) != 'v') {
                move = BACK;
            } else {
                entry.one = subject;
                entry.x = place;
                subject = operations.result();
                place = 1;
                note(LEAVE_SCAN, index);
                open(index, 2);
            }
        }

        private void keepInside(int scan) {
            entry(scan).two = subject;
            entry(scan).y = place;
            note(ENTER_SCAN, scan);
        }

        /** Leaves the scannings between two entries, and answers the innermost one or NONE. */
        private void leaveScans(int index, int outer) {
            int inner = index;
            for (int i = 0; i < HEIGHT && inner != outer && inner != NONE; i++) {
                Entry around = entry(entry(inner).receiver);
                if (around.kind == 's' && entry(inner).part == 2) {
                    subject = around.one;
                    place = around.x;
                }
                inner = entry(inner).receiver;
            }
        }

        private int scanAround(int index, int outer) {
            int inner = index;
            for (int i = 0; i < HEIGHT && inner != outer && inner != NONE; i++) {
                int around = entry(inner).receiver;
                if (entry(around).kind == 's' && entry(inner).part == 2) {
                    return around;
                }
                inner = around;
            }
            return NONE;
        }

        // ---- procedures

        private void takeArgument(int index, int part, long coded) {
            if (part == 3) {
                leave(entry(index).y);
            } else if (part == 1 && isTold(index, 2)) {
                entry(index).one = coded;
                open(index, 2);
            } else if (part == 1) {
                invoke(index, coded, 0);
            } else {
                invoke(index, entry(index).one, coded);
            }
        }

        private void invoke(int index, long first, long second) {
            Entry entry = entry(index);
            int body = program.bodyOf(amountOf(entry));
            if (body == NONE) {
                stop('x');
            } else if (rooms.depthOf(entry.room) >= MOST_WITHIN) {
                stop('d');
            } else {
                entry.y = height;
                int room = rooms.take(index, entry.room);
                rooms.set(room, 0, first);
                rooms.set(room, 1, second);
                openAs(body, index, 3, room);
            }
        }

        private void suspend(int index, long coded) {
            int call = rooms.callOf(entry(index).room);
            int scan = scanAround(index, call);
            if (scan != NONE) {
                keepInside(scan);
            }
            leaveScans(index, call);
            give(call, coded);
        }

        private void endWith(int index, long coded) {
            int call = rooms.callOf(entry(index).room);
            leaveScans(index, call);
            leave(entry(call).y);
            give(call, coded);
        }

        /** Ends the procedure without a value, and comes back to the parts of its call. */
        private void endProcedure(int index) {
            int call = rooms.callOf(entry(index).room);
            leaveScans(index, call);
            leave(entry(call).y);
        }
    }
}
