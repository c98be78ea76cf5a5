import java.util.ArrayList;
import java.util.List;

/**
 * All promises and 'Exceptions': each call with arguments at their edges and one step to either side, in states at
 * theirs. The exception that is documented first of those that apply is thrown, none else, and behind what was refused
 * later calls answer as if it had not been made.
 */
public final class RefusedTest {
    private static final int LEAST = Integer.MIN_VALUE;
    private static final int MOST = Integer.MAX_VALUE;
    private static final String ARGUMENT = "IllegalArgument";
    private static final String STATE = "IllegalState";
    private static final String INDEX = "IndexOutOfBounds";
    private static final String ELEMENT = "NoSuchElement";
    private static final String UNSUPPORTED = "UnsupportedOperation";
    private static final String NOTHING = "nothing";
    /** What a text or a life has for the number that it is not. */
    private static final int NO_NUMBER = LEAST + 1;
    /** Kinds of make, and how many parts each needs and has at most. */
    private static final String KINDS = "qpnfRbr!TmPAMUFHSc@^ew|&;t+-*/.<=~lsi[";
    private static final String NEEDED = "00000011111111111111112222222222222223";
    private static final String HAD = "00001111111111111111222222222222222233";

    interface Told {
        Object answer(DoorScan x);
    }

    /** An object with so many expressions and letters, and a run of this notation that was asked so many times. */
    private static final class State {
        private final int count;
        private final int letters;
        private final String run;
        private final int asked;
        /** What the last value is: n, t, c or nothing; its length, and its number. */
        private char sort;
        private int length;
        private int number = NO_NUMBER;
        private int chain;
        private boolean hasValues;

        State(int count, int letters, String run, int asked) {
            this.count = count;
            this.letters = letters;
            this.run = run;
            this.asked = asked;
        }

        State last(char newSort, int newLength, int newNumber) {
            sort = newSort;
            length = newLength;
            number = newNumber;
            hasValues = true;
            return this;
        }

        State ended(int newChain, boolean newHasValues) {
            chain = newChain;
            hasValues = newHasValues;
            return this;
        }

        DoorScan make() {
            DoorScan x = new DoorScan();
            int expression = run.isEmpty() ? -1 : Kit.put(x, run);
            int made = expression + 1;
            while (made < count) {
                made = x.number(made) + 1;
            }
            if (count > 1) {
                x.define(4, 1);
            }
            for (int i = 0; i < letters; i++) {
                x.type((char) ('a' + i % 26));
            }
            if (expression >= 0) {
                x.begin(expression);
            }
            for (int i = 0; i < asked; i++) {
                x.next();
            }
            return x;
        }

        boolean hasRun() {
            return !run.isEmpty();
        }
    }

    private static State state;
    private static String untouched;

    public static void main(String[] args) {
        State[] states = {
            new State(0, 0, "", 0),
            new State(1, 1, "", 0),
            new State(80, 60, "", 0),
            new State(79, 59, "", 0),
            new State(78, 60, "(| 1 2)", 0),
            new State(20, 0, "(| -12 3)", 1).last('n', 3, -12),
            new State(20, 0, "(| -2147483648 3)", 1).last('n', 11, LEAST),
            new State(20, 0, "(| 'abc' 3)", 1).last('t', 3, NO_NUMBER),
            new State(20, 0, "(| '' 3)", 1).last('t', 0, NO_NUMBER),
            new State(20, 0, "(| '-999999999' 3)", 1).last('t', 10, -999999999),
            new State(20, 0, "(| '1000000000' 3)", 1).last('t', 10, NO_NUMBER),
            new State(80, 59, "(| (c 5) 3)", 1).last('c', 0, NO_NUMBER),
            new State(10, 0, "(< 2 1)", 1).ended(0, false),
            new State(10, 0, "(| 1 2)", 4).ended(0, true),
            new State(10, 0, "(/ 1 0)", 1).ended(1, false),
            new State(10, 0, "(| 2 (@ (c v6)))", 3).ended(2, true)};
        for (State one : states) {
            state = one;
            untouched = told(one.make());
            expressions();
            parts();
            runs();
            variables();
            secondWay();
        }
        Kit.end();
    }

    /** Makes the call in the state, and compares what it throws; and then all that is told later on. */
    private static void check(String what, String want, Told call) {
        DoorScan x = state.make();
        String thrown = NOTHING;
        try {
            call.answer(x);
        } catch (RuntimeException e) {
            thrown = e.getClass().getSimpleName().replace("Exception", "");
        }
        String where = " with " + state.count + " expressions, " + state.letters + " letters and a run of '"
                + state.run + "' asked " + state.asked + " times";
        Kit.due(what + where + " throws", thrown, want);
        if (!thrown.equals(NOTHING)) {
            Kit.due("later calls behind " + what + where, told(x), untouched);
        }
    }

    private static String first(String... exceptions) {
        for (String exception : exceptions) {
            if (!exception.isEmpty()) {
                return exception;
            }
        }
        return NOTHING;
    }

    private static String unless(boolean isFine, String exception) {
        return isFine ? "" : exception;
    }

    /** All that later calls answer. */
    private static String told(DoorScan x) {
        List<String> told = new ArrayList<>();
        tellFigures(x, told);
        tellRun(x, told);
        told.add(Kit.answer(() -> x.isSound()));
        told.add(Kit.answer(() -> x.countHanded(0, 20)));
        for (int i = 0; i < 3; i++) {
            told.add(Kit.answer(() -> x.next()));
            tellRun(x, told);
        }
        tellFigures(x, told);
        for (int i = 0; i < 6; i++) {
            int procedure = i;
            told.add(Kit.answer(() -> x.define(procedure, 0)));
        }
        told.add(Kit.answer(() -> x.type('z')));
        told.add(Kit.answer(() -> x.text()));
        told.add(Kit.answer(() -> x.number(8)));
        told.add(Kit.answer(() -> x.begin(state.count)));
        told.add(Kit.answer(() -> x.next() + Kit.shown(x)));
        for (int i = 0; i < 4; i++) {
            int expression = state.count - 3 + i;
            told.add(Kit.answer(() -> x.begin(expression)));
            told.add(Kit.answer(() -> x.next()));
            told.add(Kit.answer(() -> Kit.shown(x)));
        }
        return told.toString();
    }

    private static void tellFigures(DoorScan x, List<String> told) {
        told.add(Kit.answer(() -> x.runs()));
        told.add(Kit.answer(() -> x.steps()));
        told.add(Kit.answer(() -> x.values()));
        told.add(Kit.answer(() -> x.errorShare()));
        told.add(Kit.answer(() -> x.meanSteps()));
    }

    private static void tellRun(DoorScan x, List<String> told) {
        told.add(Kit.answer(() -> Kit.shown(x)));
        told.add(Kit.answer(() -> x.error()));
        told.add(Kit.answer(() -> x.trace()));
        told.add(Kit.answer(() -> x.traceAt(0)));
        told.add(Kit.answer(() -> x.traceAt(1)));
        told.add(Kit.answer(() -> x.hasVariable(0)));
        told.add(Kit.answer(() -> x.variableNow(0)));
        told.add(Kit.answer(() -> x.subjectLength()));
        told.add(Kit.answer(() -> x.place()));
    }

    private static boolean isIn(int number, int least, int most) {
        return number >= least && number <= most;
    }

    private static String room() {
        return unless(state.count < 80, STATE);
    }

    private static String there(int expression) {
        return unless(isIn(expression, 0, state.count - 1), INDEX);
    }

    private static String thereIfTold(int expression) {
        return expression == -1 ? "" : there(expression);
    }

    /** Numbers of expressions: the last one, the one behind it, and others that are none. */
    private static int[] expressionEdges() {
        return new int[] {LEAST, -2, -1, 0, state.count - 1, state.count, 80, MOST};
    }

    // ---- promises 2 to 11

    private static void expressions() {
        for (int c : new int[] {0, 31, 32, 126, 127, 65535}) {
            check("type(" + c + ")", first(unless(isIn(c, 32, 126), ARGUMENT), unless(state.letters < 60, STATE)),
                    x -> x.type((char) c));
        }
        check("number(1)", first(room()), x -> x.number(1));
        check("text()", first(room()), x -> x.text());
        for (int v : new int[] {LEAST, -1, 0, 7, 8, MOST}) {
            String variable = unless(isIn(v, 0, 7), ARGUMENT);
            check("variable(" + v + ")", first(variable, room()), x -> x.variable(v));
            for (char kind : new char[] {':', 'u', 'x', 'y', '9', ';', 't', 'v', 'w', 'z', 0}) {
                String exchange = unless(kind == 'x' || kind == 'y', ARGUMENT);
                check("exchange(" + kind + ", " + v + ", 7)", first(exchange, variable, room()),
                        x -> x.exchange(kind, v, 7));
                check("exchange(" + kind + ", 0, " + v + ")", first(exchange, variable, room()),
                        x -> x.exchange(kind, 0, v));
                String assign = unless(kind == ':' || kind == 'u', ARGUMENT);
                for (int a : expressionEdges()) {
                    check("assign(" + kind + ", " + v + ", " + a + ")", first(assign, variable, there(a), room()),
                            x -> x.assign(kind, v, a));
                }
            }
        }
        for (int a : expressionEdges()) {
            check("begin(" + a + ")", first(there(a)), x -> x.begin(a));
            for (int p : new int[] {LEAST, -1, 0, 5, 6, MOST}) {
                String procedure = unless(isIn(p, 0, 5), ARGUMENT);
                check("define(" + p + ", " + a + ")", first(procedure, there(a)), x -> x.define(p, a));
                for (int b : expressionEdges()) {
                    check("call(" + p + ", " + a + ", " + b + ")",
                            first(procedure, there(a), thereIfTold(b), room()), x -> x.call(p, a, b));
                }
            }
        }
    }

    // ---- promise 6

    private static void parts() {
        for (int i = 0; i < KINDS.length(); i++) {
            parts(KINDS.charAt(i), NEEDED.charAt(i) - '0', HAD.charAt(i) - '0');
        }
        for (char kind : new char[] {0, ' ', '0', '"', '(', ':', 'u', 'x', 'y', 'v', 'B', 's' + 256, 65535}) {
            check("make(" + (int) kind + ")", ARGUMENT, x -> x.make(kind, 0, -1, -1));
            check("make(" + (int) kind + ")", ARGUMENT, x -> x.make(kind, 99, 0, 0));
        }
    }

    private static void parts(char kind, int needed, int had) {
        for (int a : new int[] {-2, -1, 0, state.count - 1, state.count}) {
            for (int b : new int[] {-2, -1, 0, state.count}) {
                for (int c : new int[] {LEAST, -1, 0, state.count}) {
                    int told = (a == -1 ? 0 : 1) + (b == -1 ? 0 : 2) + (c == -1 ? 0 : 4);
                    boolean fits = (told & (1 << needed) - 1) == (1 << needed) - 1 && told < 1 << had;
                    check("make(" + kind + ", " + a + ", " + b + ", " + c + ")",
                            first(unless(fits, ARGUMENT), thereIfTold(a), thereIfTold(b), thereIfTold(c), room()),
                            x -> x.make(kind, a, b, c));
                }
            }
        }
    }

    // ---- promises 12 to 19, 22 and 23

    private static void runs() {
        String run = unless(state.hasRun(), STATE);
        String value = unless(state.sort != 0, ELEMENT);
        String text = unless(state.sort != 'c', UNSUPPORTED);
        check("next()", first(run), x -> x.next());
        check("kind()", first(run, value), x -> x.kind());
        check("value()", first(run, value, unless(state.number != NO_NUMBER, UNSUPPORTED)), x -> x.value());
        check("length()", first(run, value, text), x -> x.length());
        for (int i : new int[] {LEAST, -1, 0, state.length - 1, state.length, 60, MOST}) {
            check("charAt(" + i + ")", first(run, value, text, unless(isIn(i, 0, state.length - 1), INDEX)),
                    x -> x.charAt(i));
        }
        check("error()", first(run, unless(state.chain > 0, ELEMENT)), x -> x.error());
        check("trace()", first(run), x -> x.trace());
        for (int i : new int[] {LEAST, -1, 0, state.chain - 1, state.chain, 300, MOST}) {
            check("traceAt(" + i + ")", first(run, unless(isIn(i, 0, state.chain - 1), INDEX)), x -> x.traceAt(i));
        }
        check("subjectLength()", first(run), x -> x.subjectLength());
        check("place()", first(run), x -> x.place());
        check("runs()", NOTHING, x -> x.runs());
        check("steps()", NOTHING, x -> x.steps());
        check("values()", NOTHING, x -> x.values());
        check("errorShare()", first(unless(state.hasRun(), "Arithmetic")), x -> x.errorShare());
        check("meanSteps()", first(unless(state.hasValues, "Arithmetic")), x -> x.meanSteps());
        check("isSound()", NOTHING, x -> x.isSound());
    }

    // ---- promises 20 and 21; no variable has a value in these runs

    private static void variables() {
        for (int v : new int[] {LEAST, -1, 0, 7, 8, MOST}) {
            String variable = unless(isIn(v, 0, 7), ARGUMENT);
            String run = unless(state.hasRun(), STATE);
            check("hasVariable(" + v + ")", first(variable, run), x -> x.hasVariable(v));
            check("variableNow(" + v + ")", first(variable, run, ELEMENT), x -> x.variableNow(v));
        }
    }

    // ---- promises 24 and 25

    private static void secondWay() {
        for (int a : expressionEdges()) {
            for (int most : new int[] {LEAST, -1, 0, 1, 20, 21, MOST}) {
                check("countHanded(" + a + ", " + most + ")", first(there(a), unless(isIn(most, 1, 20), ARGUMENT)),
                        x -> x.countHanded(a, most));
            }
            for (int index : new int[] {LEAST, -1, 20, 21, MOST}) {
                check("handed(" + a + ", " + index + ")", first(there(a), ARGUMENT), x -> x.handed(a, index));
            }
            check("handed(" + a + ", 19)", first(there(a), ELEMENT), x -> x.handed(a, 19));
        }
    }
}
