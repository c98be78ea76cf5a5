import java.util.ArrayList;
import java.util.List;
import java.util.Random;

/** Random programs, always the same: both ways find what the oracle finds, with steps, variables, places and errors. */
public final class OracleTest {
    private static final String WITH_A = "r!TmPAMUFHSSRSR";
    private static final String WITH_AB = "|&;t+-*/<=.~ls|&;t=<.s|&;t";
    /** Kinds that have to do with the numbers that a 't' passes over. */
    private static final String COUNTING_WITH_A = "rSSTmP";
    private static final String COUNTING_WITH_AB = "tttt+-<=~|&;l";
    /** Kinds whose numbers are given again, that move the place, and that look at it. */
    private static final String CHAINED_WITH_A = "TmTmUFUFPAMH";
    private static final String CHAINED_WITH_B = "tttttt+-*<=~&";

    private static int checked;

    private final Random random;
    private final DoorScan x = new DoorScan();
    private final Oracle oracle = new Oracle();
    private final boolean hasLives;
    private final boolean hasChains;
    private final boolean wide;
    private final boolean[] isLeftOut = new boolean[16];
    private final String withA;
    private final String withAB;
    private final String name;
    private int count;

    private OracleTest(long seed, boolean hasLives, boolean isCounting, boolean hasChains) {
        random = new Random(seed);
        this.hasLives = hasLives;
        this.hasChains = hasChains;
        wide = below(3) == 0 && !isCounting;
        // each program has kinds of its own, so that rare ones come together
        for (int i = 0; i < isLeftOut.length; i++) {
            isLeftOut[i] = i < 10 && below(3) == 0 || isCounting && (i == 3 || i == 4 || i == 8);
        }
        withA = some(isCounting ? COUNTING_WITH_A : WITH_A);
        withAB = isCounting ? COUNTING_WITH_AB : some(WITH_AB);
        name = "program " + seed;
    }

    public static void main(String[] args) throws InterruptedException {
        int programs = args.length > 0 ? Integer.parseInt(args[0]) : 5000;
        long seed = args.length > 1 ? Long.parseLong(args[1]) : 20261119;
        Thread thread = new Thread(null, () -> checkAll(programs, seed), "oracle", Oracle.STACK);
        thread.start();
        thread.join();
        Kit.due("programs that were checked", checked, programs);
        Kit.end();
    }

    private static void checkAll(int programs, long seed) {
        for (int i = 0; i < programs; i++) {
            new OracleTest(seed + i, i % 4 == 0, i % 4 == 1, i % 4 == 2 || i % 16 == 0).check();
            checked++;
        }
    }

    private void check() {
        makeProgram();
        for (int i = 0; i < 6; i++) {
            if (hasChains && count < 70) {
                chain();
            }
            int expression = count - 1 - below(hasChains ? 1 : Math.min(count, 20));
            if (count < 76 && below(4) > 0) {
                expression = behindAssignments(expression);
            }
            if (count < 78 && below(2) == 0) {
                expression = inProcedure(expression);
            }
            checkRun(expression);
            checkHanded(expression);
        }
        Kit.due(name + ": isSound()", x.isSound(), true);
    }

    private int below(int bound) {
        return random.nextInt(bound);
    }

    private char one(String of) {
        return of.charAt(below(of.length()));
    }

    private String some(String of) {
        StringBuilder some = new StringBuilder(one(of) + "");
        for (int i = 0; i < of.length(); i++) {
            if (below(2) == 0) {
                some.append(of.charAt(i));
            }
        }
        return some.toString();
    }

    private int part() {
        return below(3) == 0 ? below(count) : count - 1 - below(Math.min(count, 8));
    }

    // ---- the program, twice

    private void makeProgram() {
        for (int i = 0; i < 7; i++) {
            if (i < 3) {
                text();
            } else {
                number();
            }
        }
        int most = hasChains ? 0 : 20 + below(40);
        for (int i = 0; i < most; i++) {
            // what is doubled comes to many that are open
            if (i < 6 && wide) {
                make(one("&&&+|"), i == 0 ? 4 : count - 1, i == 0 ? 4 : count - 1, -1);
            } else {
                add();
            }
        }
        for (int i = 0; i < 4; i++) {
            define(below(4), below(count));
        }
    }

    private void define(int procedure, int body) {
        x.define(procedure, body);
        oracle.define(procedure, body);
    }

    private void added(int expression, int other) {
        Kit.due(name + ": the number of the expression", expression, other);
        count = expression + 1;
    }

    private void text() {
        StringBuilder text = new StringBuilder();
        for (int i = below(4) + (hasChains ? 1 : 0); i > 0; i--) {
            text.append(one(hasChains ? "123" : "ab12-"));
            x.type(text.charAt(text.length() - 1));
        }
        added(x.text(), oracle.add('"', 0, 0, text.toString()));
    }

    private void number() {
        int number = below(30) == 0 ? below(4000) - 2000 : below(9) - 2;
        added(x.number(number), oracle.add('0', number, 0, null));
    }

    private void make(char kind, int a, int b, int c) {
        added(x.make(kind, a, b, c), oracle.add(kind, 0, 0, null, a, b, c));
    }

    private int assign(char kind, int variable, int a) {
        added(x.assign(kind, variable, a), oracle.add(kind, variable, 0, null, a, -1, -1));
        return count - 1;
    }

    private int behindAssignments(int expression) {
        int row = expression;
        for (int i = 0; i < 2; i++) {
            int assignment = assign(':', below(3), below(7));
            make(';', assignment, row, -1);
            row = count - 1;
        }
        return row;
    }

    /** A call with a loop around the expression, or with the expression itself. */
    private int inProcedure(int expression) {
        int body = expression;
        if (below(2) == 0) {
            make('e', below(7), expression, -1);
            body = count - 1;
        }
        define(0, body);
        int first = below(7);
        int second = below(7);
        added(x.call(0, first, second), oracle.add('(', 0, 0, null, first, second, -1));
        return count - 1;
    }

    private void add() {
        int a = part();
        int b = part();
        int c = part();
        int chosen = below(hasLives ? 16 : 13);
        switch (isLeftOut[chosen] ? 10 : chosen) {
            case 0 -> {
                int variable = below(3);
                added(x.variable(variable), oracle.add('v', variable, 0, null));
            }
            case 1 -> assign(one(":u"), below(3), a);
            case 2 -> {
                int procedure = below(4);
                int second = below(2) == 0 ? -1 : b;
                added(x.call(procedure, a, second), oracle.add('(', procedure, 0, null, a, second, -1));
            }
            case 3 -> make(one("qpnnf"), -1, -1, -1);
            case 4 -> make(one("bR"), below(3) == 0 ? -1 : a, -1, -1);
            case 5 -> make(one("eew"), a, below(3) == 0 ? -1 : b, -1);
            case 6 -> make('i', a, b, below(3) == 0 ? -1 : c);
            case 7 -> make(one(withA), a, -1, -1);
            case 8 -> {
                char kind = one("xy");
                int other = below(3);
                added(x.exchange(kind, c % 3, other), oracle.add(kind, c % 3, other, null));
            }
            case 9 -> {
                if (below(3) == 0) {
                    make('[', a, b, c);
                } else {
                    make('s', below(3), b, -1);
                }
            }
            case 13 -> make('c', a, -1, -1);
            case 14 -> make('@', a, -1, -1);
            case 15 -> make(one("^@"), a, -1, -1);
            default -> make(one(withAB), a, b, -1);
        }
    }

    /** Each kind around the one ahead of it, so that much is gone back into without a step. */
    private void chain() {
        switch (below(3)) {
            case 0 -> make('t', below(7), below(7), -1);
            case 1 -> make('|', below(7), below(7), -1);
            default -> make('F', below(7), -1, -1);
        }
        for (int i = 1 + below(6); i > 0 && count < 70; i--) {
            addAround(count - 1);
        }
        if (count < 72) {
            make('s', below(3), count - 1, -1);
        }
    }

    private void addAround(int inner) {
        switch (below(hasLives ? 17 : 16)) {
            case 0 -> assign(one("::u"), below(2), inner);
            case 1 -> make(one("l|&;"), inner, below(7), -1);
            case 2 -> make(one("r!"), inner, -1, -1);
            case 3 -> {
                int procedure = below(4);
                int body = inner;
                if (below(2) == 0) {
                    make('S', inner, -1, -1);
                    body = count - 1;
                }
                if (below(2) == 0) {
                    make(one("s&|"), below(3), body, -1);
                    body = count - 1;
                }
                define(procedure, body);
                int first = below(7);
                added(x.call(procedure, first, -1), oracle.add('(', procedure, 0, null, first, -1, -1));
            }
            case 4, 5, 6, 7, 8, 9 -> make(one(CHAINED_WITH_A), inner, -1, -1);
            case 16 -> {
                make('c', inner, -1, -1);
                int life = assign(':', 2, count - 1);
                added(x.variable(2), oracle.add('v', 2, 0, null));
                make('@', count - 1, -1, -1);
                make('r', count - 1, -1, -1);
                make(';', life, count - 1, -1);
            }
            default -> make(one(CHAINED_WITH_B), below(7), inner, -1);
        }
    }

    // ---- what both answer

    private void checkRun(int expression) {
        int most = below(8) == 0 ? 60 : 12;
        // behind one of the values a procedure may have another body
        int changed = below(4) == 0 ? 1 + below(3) : 0;
        int procedure = below(4);
        int body = below(count);
        List<String> due = oracle.run(expression, most, found -> {
            if (found == changed) {
                oracle.define(procedure, body);
            }
        });
        List<String> got = new ArrayList<>();
        x.begin(expression);
        long before = x.steps();
        char answer = 'v';
        while (got.size() < (oracle.isGivenUp() ? due.size() : most) && answer == 'v') {
            answer = x.next();
            got.add(row(answer, before));
            if (answer == 'v' && got.size() == changed) {
                x.define(procedure, body);
            }
            askAside();
        }
        Kit.due(name + ": the run of " + expression, String.join("\n", got), String.join("\n", due));
    }

    /** What changes nothing of the run. */
    private void askAside() {
        int chosen = below(30);
        if (chosen == 0) {
            x.isSound();
        } else if (chosen == 1 && !hasChains) {
            // the numbers of other chains may be too many
            x.countHanded(below(count), 3);
        } else if (chosen == 2) {
            Kit.throwing(name + ": no such expression", "IndexOutOfBounds", () -> x.begin(count));
        }
    }

    private String row(char answer, long before) {
        StringBuilder row = new StringBuilder().append(answer);
        if (answer == 'v') {
            row.append(' ').append(Kit.shown(x));
        } else if (answer == 'e') {
            List<Integer> chain = new ArrayList<>();
            for (int i = 0; i < x.trace(); i++) {
                chain.add(x.traceAt(i));
            }
            row.append(' ').append(x.error()).append(' ').append(chain);
        }
        row.append(" steps ").append(x.steps() - before).append(" variables");
        for (int i = 0; i < 8; i++) {
            int variable = i;
            String value = Kit.answer(() -> x.variableNow(variable));
            row.append(' ').append(!x.hasVariable(i) ? "-" : value.equals("UnsupportedOperation") ? "null" : value);
        }
        return row.append(" subject ").append(x.subjectLength()).append(" place ").append(x.place()).toString();
    }

    private void checkHanded(int expression) {
        List<String> due = oracle.handed(expression, 20);
        int most = oracle.isGivenUp() ? due.size() : 20;
        if (most > 0) {
            Kit.due(name + ": countHanded of " + expression, x.countHanded(expression, most), due.size());
        }
        for (int i = 0; i < due.size(); i++) {
            int index = i;
            Object value = due.get(i).startsWith("'") ? due.get(i).substring(1, due.get(i).length() - 1)
                    : Integer.valueOf(due.get(i));
            Integer number = Oracle.number(value);
            Kit.due(name + ": handed " + i + " of " + expression, Kit.answer(() -> x.handed(expression, index)),
                    number == null ? "UnsupportedOperation" : number);
        }
    }
}
