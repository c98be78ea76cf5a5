import java.util.ArrayList;
import java.util.Arrays;
import java.util.List;
import java.util.concurrent.SynchronousQueue;
import java.util.function.IntConsumer;

/**
 * A third way to find the values of an expression, in the plainest words: each expression is a method that hands its
 * values on, and returns as it fails. It has its own copy of the expressions, and a thread for each life.
 */
final class Oracle {
    /** What a thread needs that asks it: each open expression takes some calls. */
    static final long STACK = 1L << 28;
    /** More numbers of 't's than this are not gone through one by one: what is found ahead of them is told. */
    private static final int MOST_NUMBERS = 100_000;
    private static final char GIVEN_UP = '?';

    interface Next {
        void value(Object value);
    }

    /** Leaves what was begun, up to the one that made it. */
    private static final class Leave extends RuntimeException {
        private static final long serialVersionUID = 1;
        private transient Object value;
        private int expression = -1;

        Leave() {
            super(null, null, false, false);
        }
    }

    private static final class Error extends RuntimeException {
        private static final long serialVersionUID = 1;

        Error() {
            super(null, null, false, false);
        }
    }

    private record Expression(char kind, int amount, int other, String text, int[] parts) { }

    private record Scan(String subject, int place, Scan outer) { }

    private record Loop(char kind, boolean isFirst, Leave leave, Leave goOn, Scan scan) { }

    private static final class Frame {
        private final Object[] variables = new Object[8];
        private final Leave end = new Leave();
        private int call = -1;
        private Frame caller;
        private int depth;
        private Next receiver;
        /** Of the run or a life: what is asked, and by which '@'. */
        private Life life;
    }

    private record Around(Frame frame, Loop loop, Scan scan) { }

    /** A life, or the run itself. */
    private final class Life {
        private final int expression;
        private final Object[] copied;
        private final String copiedSubject;
        private final int copiedPlace;
        private String subject;
        private int place;
        private int level;
        private int asker;
        private Frame askedIn;
        private boolean isEnded;
        private Thread thread;
        private final SynchronousQueue<Object[]> asked = new SynchronousQueue<>();
        private final SynchronousQueue<Object[]> answered = new SynchronousQueue<>();

        Life(int expression, Object[] copied, String subject, int place) {
            this.expression = expression;
            this.copied = copied.clone();
            this.subject = subject;
            this.place = place;
            copiedSubject = subject;
            copiedPlace = place;
        }

        Frame frame() {
            Frame frame = new Frame();
            System.arraycopy(copied, 0, frame.variables, 0, 8);
            frame.life = this;
            return frame;
        }

        /** The next value, or null. */
        private Object ask() {
            if (thread == null) {
                thread = new Thread(null, this::answer, "life", STACK);
                thread.setDaemon(true);
                threads.add(thread);
                thread.start();
            }
            put(asked, null);
            Object[] answer = take(answered);
            if (answer[1] != null) {
                throw (Error) answer[1];
            }
            isEnded = answer[0] == null;
            return answer[0];
        }

        private void answer() {
            try {
                take(asked);
                eval(expression, new Around(frame(), null, null), value -> {
                    put(answered, value);
                    take(asked);
                });
                put(answered, null);
            } catch (Error e) {
                try {
                    answered.put(new Object[] {null, e});
                } catch (InterruptedException interrupted) {
                    return;
                }
            } catch (IllegalStateException e) {
                return;
            }
        }

        private void put(SynchronousQueue<Object[]> queue, Object value) {
            try {
                queue.put(new Object[] {value, null});
            } catch (InterruptedException e) {
                throw new IllegalStateException("the oracle rests", e);
            }
        }

        private Object[] take(SynchronousQueue<Object[]> queue) {
            try {
                return queue.take();
            } catch (InterruptedException e) {
                throw new IllegalStateException("the oracle rests", e);
            }
        }
    }

    private final List<Expression> expressions = new ArrayList<>();
    private final int[] bodies = {-1, -1, -1, -1, -1, -1};
    private final List<Thread> threads = new ArrayList<>();
    private boolean isHanded;
    private int steps;
    private int stepsBefore;
    private int open;
    private int numbers;
    private char error;
    private List<Integer> chain;

    // ---- expressions

    int add(char kind, int amount, int other, String text, int... parts) {
        expressions.add(new Expression(kind, amount, other, text, Arrays.copyOf(parts.length == 0
                ? new int[] {-1, -1, -1} : parts, 3)));
        return expressions.size() - 1;
    }

    void define(int procedure, int body) {
        bodies[procedure] = body;
    }

    // ---- runs

    /** What a run answers to the first so many calls of next, with all that can be asked then; after each is told. */
    List<String> run(int expression, int most, IntConsumer after) {
        isHanded = false;
        return rows(expression, most, after);
    }

    /** The values that are handed on, as numbers, or null for what is none. */
    List<String> handed(int expression, int most) {
        isHanded = true;
        return rows(expression, most, count -> { });
    }

    /** Whether the last values were not found to the end. */
    boolean isGivenUp() {
        return error == GIVEN_UP;
    }

    private List<String> rows(int expression, int most, IntConsumer after) {
        List<String> rows = new ArrayList<>();
        find(expression, most, rows, after);
        for (Thread life : threads) {
            life.interrupt();
        }
        threads.clear();
        return rows;
    }

    private void find(int expression, int most, List<String> rows, IntConsumer after) {
        steps = 0;
        stepsBefore = 0;
        open = 0;
        numbers = 0;
        error = 0;
        chain = List.of();
        Life run = new Life(expression, new Object[8], "", 1);
        Frame frame = run.frame();
        Leave enough = new Leave();
        try {
            eval(expression, new Around(frame, null, null), value -> {
                rows.add(isHanded ? shown(value) : row("v " + shown(value), frame));
                stepsBefore = steps;
                after.accept(rows.size());
                if (rows.size() == most) {
                    throw enough;
                }
            });
            if (!isHanded) {
                rows.add(row("f", frame));
            }
        } catch (Leave leave) {
            if (leave != enough) {
                throw leave;
            }
        } catch (Error e) {
            if (!isHanded && !isGivenUp()) {
                rows.add(row("e " + error + " " + chain, frame));
            }
        }
    }

    private String row(String answer, Frame frame) {
        StringBuilder row = new StringBuilder(answer).append(" steps ").append(steps).append(" variables");
        for (Object variable : frame.variables) {
            row.append(' ').append(variable == null ? "-" : number(variable));
        }
        return row.append(" subject ").append(frame.life.subject.length()).append(" place ")
                .append(frame.life.place).toString();
    }

    static String shown(Object value) {
        return value instanceof String ? "'" + value + "'" : value instanceof Integer ? value.toString() : "c";
    }

    // ---- values

    static Integer number(Object value) {
        if (value instanceof Integer) {
            return (Integer) value;
        }
        return value instanceof String && ((String) value).matches("-?[0-9]{1,9}")
                ? Integer.valueOf((String) value) : null;
    }

    private static String text(Object value) {
        return value instanceof Life ? null : String.valueOf(value);
    }

    private Error stop(char kind, int expression, Frame frame) {
        error = kind;
        chain = new ArrayList<>();
        chain.add(expression);
        Frame around = frame;
        while (around != null) {
            if (around.call >= 0) {
                chain.add(around.call);
                around = around.caller;
            } else if (around.life.askedIn != null) {
                chain.add(around.life.asker);
                around = around.life.askedIn;
            } else {
                around = null;
            }
        }
        return new Error();
    }

    private static Life lifeOf(Frame frame) {
        Frame outermost = frame;
        while (outermost.caller != null) {
            outermost = outermost.caller;
        }
        return outermost.life;
    }

    // ---- expressions have their values

    private void eval(int number, Around around, Next next) {
        if (steps - (isHanded ? 0 : stepsBefore) >= 1000) {
            throw stop('l', number, around.frame);
        }
        if (isHanded && open >= 150) {
            throw stop('d', number, around.frame);
        }
        steps++;
        open++;
        int opened = open;
        kinds(number, expressions.get(number), around, next);
        if (isHanded && open != opened) {
            throw new IllegalStateException("as many are open as before");
        }
        open--;
    }

    /** The first value of what is bounded, or null. */
    private Object first(int number, Around around) {
        Leave found = new Leave();
        int before = open;
        try {
            eval(number, around, value -> {
                found.value = value;
                throw found;
            });
        } catch (Leave leave) {
            if (leave != found) {
                throw leave;
            }
            open = before;
        }
        return found.value;
    }

    private void kinds(int number, Expression e, Around around, Next next) {
        int a = e.parts[0];
        int b = e.parts[1];
        int c = e.parts[2];
        Frame frame = around.frame;
        switch (e.kind) {
            case '0' -> next.value(e.amount);
            case '"' -> next.value(e.text);
            case 'v' -> {
                if (frame.variables[e.amount] == null) {
                    throw stop('x', number, frame);
                }
                next.value(frame.variables[e.amount]);
            }
            case 'q' -> next.value(lifeOf(frame).subject);
            case 'p' -> next.value(lifeOf(frame).place);
            case '|' -> {
                eval(a, around, next);
                eval(b, around, next);
            }
            case '&' -> eval(a, around, value -> eval(b, around, next));
            case ';' -> {
                first(a, around);
                eval(b, around, next);
            }
            case 'i' -> {
                if (first(a, around) != null) {
                    eval(b, around, next);
                } else if (c >= 0) {
                    eval(c, around, next);
                }
            }
            case '!' -> {
                if (first(a, around) == null) {
                    next.value(0);
                }
            }
            case 'r' -> {
                boolean[] any = {true};
                while (any[0]) {
                    any[0] = false;
                    eval(a, around, value -> {
                        any[0] = true;
                        next.value(value);
                    });
                }
            }
            case 'l' -> eval(b, around, most -> limit(number(most), a, around, next));
            case ':', 'u' -> eval(a, around, value -> {
                Object before = frame.variables[e.amount];
                frame.variables[e.amount] = value;
                next.value(value);
                if (e.kind == 'u') {
                    frame.variables[e.amount] = before;
                }
            });
            case 'x', 'y' -> exchange(number, e, frame, next);
            case 'e', 'w', 'b', 'n' -> loops(number, e, around, next);
            case 'S', 'R', 'f', '(' -> procedures(number, e, around, next);
            case 'c', '@', '^' -> lives(number, e, around, next);
            case '[' -> eval(a, around, one -> eval(b, around, two -> eval(c, around, three ->
                    slice(text(one), number(two), number(three), next))));
            case 's', 'T', 'm', 'P', 'A', 'M', 'U', 'F', 'H' -> scanning(e, around, next);
            default -> eval(a, around, one -> eval(b, around, two -> both(number, e.kind, one, two, frame, next)));
        }
    }

    private void limit(Integer most, int a, Around around, Next next) {
        if (most == null || most <= 0) {
            return;
        }
        int[] rest = {most};
        int before = open;
        Leave last = new Leave();
        try {
            eval(a, around, value -> {
                rest[0]--;
                if (rest[0] == 0) {
                    last.value = value;
                    throw last;
                }
                next.value(value);
            });
        } catch (Leave leave) {
            if (leave != last) {
                throw leave;
            }
            open = before;
            next.value(last.value);
        }
    }

    private void exchange(int number, Expression e, Frame frame, Next next) {
        Object one = frame.variables[e.amount];
        Object other = frame.variables[e.other];
        if (one == null || other == null) {
            throw stop('x', number, frame);
        }
        frame.variables[e.amount] = other;
        frame.variables[e.other] = one;
        next.value(other);
        if (e.kind == 'y') {
            frame.variables[e.amount] = one;
            frame.variables[e.other] = other;
        }
    }

    private void both(int number, char kind, Object one, Object two, Frame frame, Next next) {
        if (kind == '.' || kind == '~') {
            String left = text(one);
            String right = text(two);
            if (left == null || right == null) {
                return;
            }
            if (kind == '.' && left.length() + right.length() > 60) {
                throw stop('o', number, frame);
            }
            if (kind == '.') {
                next.value(left + right);
            } else if (left.equals(right)) {
                next.value(right);
            }
            return;
        }
        Integer left = number(one);
        Integer right = number(two);
        if (left == null || right == null) {
            return;
        }
        switch (kind) {
            case '+' -> next.value(left + right);
            case '-' -> next.value(left - right);
            case '*' -> next.value(left * right);
            case '/' -> {
                if (right == 0) {
                    throw stop('z', number, frame);
                }
                next.value(left / right);
            }
            case '<' -> {
                if (left < right) {
                    next.value(right);
                }
            }
            case '=' -> {
                if (left.intValue() == right.intValue()) {
                    next.value(right);
                }
            }
            case 't' -> {
                for (long i = left; i <= right; i++) {
                    numbers++;
                    if (numbers > MOST_NUMBERS) {
                        throw stop(GIVEN_UP, number, frame);
                    }
                    next.value((int) i);
                }
            }
            default -> throw new IllegalStateException("kind " + kind);
        }
    }

    // ---- loops

    private void loops(int number, Expression e, Around around, Next next) {
        Loop inner = around.loop;
        if (e.kind == 'b' || e.kind == 'n') {
            if (inner == null) {
                throw stop('b', number, around.frame);
            }
            if (e.kind == 'n' && inner.kind == 'e' && inner.isFirst) {
                return;
            }
            leaveScans(around, inner.scan);
            if (e.kind == 'n') {
                throw inner.goOn;
            }
            inner.leave.expression = e.parts[0];
            throw inner.leave;
        }
        int before = open - 1;
        Leave leave = new Leave();
        Leave goOn = new Leave();
        Around first = new Around(around.frame, new Loop(e.kind, true, leave, goOn, around.scan), around.scan);
        Around second = new Around(around.frame, new Loop(e.kind, false, leave, goOn, around.scan), around.scan);
        try {
            if (e.kind == 'e') {
                eval(e.parts[0], first, value -> round(-1, e.parts[1], first, second, goOn));
            } else {
                while (round(e.parts[0], e.parts[1], first, second, goOn)) {
                    // a round is all there is to do
                }
            }
        } catch (Leave left) {
            if (left != leave) {
                throw left;
            }
            open = before;
            if (leave.expression >= 0) {
                eval(leave.expression, around, next);
            }
            open = before + 1;
        }
    }

    /** The bounded parts that are told, or whether the first one did not fail. */
    private boolean round(int a, int b, Around first, Around second, Leave goOn) {
        int before = open;
        try {
            if (a >= 0 && first(a, first) == null) {
                return false;
            }
            if (b >= 0) {
                first(b, second);
            }
        } catch (Leave leave) {
            if (leave != goOn) {
                throw leave;
            }
            open = before;
        }
        return true;
    }

    // ---- scanning

    private void leaveScans(Around around, Scan outer) {
        Life life = lifeOf(around.frame);
        for (Scan scan = around.scan; scan != outer; scan = scan.outer) {
            life.subject = scan.subject;
            life.place = scan.place;
        }
    }

    private static int placeOf(Integer told, int length) {
        if (told == null) {
            return 0;
        }
        long place = told > 0 ? told : (long) length + 1 + told;
        return place >= 1 && place <= length + 1 ? (int) place : 0;
    }

    private static void slice(String text, Integer from, Integer to, Next next) {
        if (text != null) {
            int one = placeOf(from, text.length());
            int other = placeOf(to, text.length());
            if (one > 0 && other > 0) {
                next.value(text.substring(Math.min(one, other) - 1, Math.max(one, other) - 1));
            }
        }
    }

    private void scanning(Expression e, Around around, Next next) {
        Life life = lifeOf(around.frame);
        eval(e.parts[0], around, value -> {
            switch (e.kind) {
                case 's' -> scan(text(value), e.parts[1], around, life, next);
                case 'T', 'm' -> {
                    int before = life.place;
                    Integer told = number(value);
                    int goal = placeOf(told, life.subject.length());
                    if (e.kind == 'm' && told != null) {
                        long moved = (long) before + told;
                        goal = moved >= 1 && moved <= life.subject.length() + 1 ? (int) moved : 0;
                    }
                    if (goal > 0) {
                        life.place = goal;
                        next.value(life.subject.substring(Math.min(before, goal) - 1, Math.max(before, goal) - 1));
                        life.place = before;
                    }
                }
                case 'P' -> {
                    if (placeOf(number(value), life.subject.length()) == life.place) {
                        next.value(life.place);
                    }
                }
                default -> {
                    if (text(value) != null) {
                        match(e.kind, text(value), life, next);
                    }
                }
            }
        });
    }

    private void scan(String subject, int b, Around around, Life life, Next next) {
        if (subject == null) {
            return;
        }
        Scan scan = new Scan(life.subject, life.place, around.scan);
        life.subject = subject;
        life.place = 1;
        eval(b, new Around(around.frame, around.loop, scan), value -> {
            int inside = life.place;
            String within = life.subject;
            life.subject = scan.subject;
            life.place = scan.place;
            next.value(value);
            life.subject = within;
            life.place = inside;
        });
        life.subject = scan.subject;
        life.place = scan.place;
    }

    private static void match(char kind, String text, Life life, Next next) {
        int from = life.place;
        String rest = life.subject.substring(from - 1);
        int many = 0;
        while (many < rest.length() && text.indexOf(rest.charAt(many)) >= 0) {
            many++;
        }
        switch (kind) {
            case 'A' -> {
                if (many > 0) {
                    next.value(from + 1);
                }
            }
            case 'M' -> {
                if (many > 0) {
                    next.value(from + many);
                }
            }
            case 'H' -> {
                if (rest.startsWith(text)) {
                    next.value(from + text.length());
                }
            }
            default -> {
                for (int i = 0; i <= rest.length(); i++) {
                    if (kind == 'F' ? rest.startsWith(text, i) : i < rest.length()
                            && text.indexOf(rest.charAt(i)) >= 0) {
                        next.value(from + i);
                    }
                }
            }
        }
    }

    // ---- procedures

    private void procedures(int number, Expression e, Around around, Next next) {
        Frame frame = around.frame;
        if (e.kind == '(') {
            eval(e.parts[0], around, one -> {
                if (e.parts[1] < 0) {
                    invoke(number, e.amount, one, null, frame, next);
                } else {
                    eval(e.parts[1], around, two -> invoke(number, e.amount, one, two, frame, next));
                }
            });
            return;
        }
        if (frame.call < 0) {
            throw stop('b', number, frame);
        }
        if (e.kind == 'S') {
            Life life = lifeOf(frame);
            eval(e.parts[0], around, value -> {
                int inside = life.place;
                String within = life.subject;
                leaveScans(around, null);
                frame.receiver.value(value);
                if (around.scan != null) {
                    life.subject = within;
                    life.place = inside;
                }
            });
            return;
        }
        frame.end.value = e.parts[0] < 0 ? null : first(e.parts[0], around);
        leaveScans(around, null);
        throw frame.end;
    }

    private void invoke(int number, int procedure, Object one, Object two, Frame caller, Next next) {
        if (bodies[procedure] < 0) {
            throw stop('x', number, caller);
        }
        if (caller.depth >= 30) {
            throw stop('d', number, caller);
        }
        Frame frame = new Frame();
        frame.variables[0] = one;
        frame.variables[1] = two;
        frame.call = number;
        frame.caller = caller;
        frame.depth = caller.depth + 1;
        frame.receiver = next;
        int before = open;
        try {
            first(bodies[procedure], new Around(frame, null, null));
        } catch (Leave leave) {
            if (leave != frame.end) {
                throw leave;
            }
            open = before;
            if (leave.value != null) {
                next.value(leave.value);
            }
        }
    }

    // ---- lives

    private void lives(int number, Expression e, Around around, Next next) {
        Frame frame = around.frame;
        Life current = lifeOf(frame);
        if (e.kind == 'c') {
            if (isHanded) {
                throw stop('t', number, frame);
            }
            next.value(new Life(e.parts[0], frame.variables, current.subject, current.place));
            return;
        }
        eval(e.parts[0], around, value -> {
            if (!(value instanceof Life)) {
                throw stop('t', number, frame);
            }
            Life life = (Life) value;
            if (e.kind == '^') {
                next.value(new Life(life.expression, life.copied, life.copiedSubject, life.copiedPlace));
                return;
            }
            if (current.level >= 8) {
                throw stop('d', number, frame);
            }
            if (life.isEnded) {
                return;
            }
            life.level = current.level + 1;
            life.asker = number;
            life.askedIn = frame;
            Object answer = life.ask();
            if (answer != null) {
                next.value(answer);
            }
        });
    }
}
