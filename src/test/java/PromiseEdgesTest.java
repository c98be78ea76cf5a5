/** Promises 1 to 23 and 26 to 30: what each call answers at its edges; what it refuses is in RefusedTest. */
public final class PromiseEdgesTest {
    private static final int MAKERS = 8;

    public static void main(String[] args) {
        newObject();
        letters();
        texts();
        numbersOfExpressions();
        lastExpression();
        earlierOnes();
        bodies();
        changedBodies();
        begun();
        behindTheLast();
        lastValue();
        charactersOfValues();
        errors();
        variablesOfTheRun();
        subjectAndPlace();
        countsOfRuns();
        sharesOfErrors();
        meansOfSteps();
        Kit.end();
    }

    /** Promise 1: "without expressions and bodies, and without a run" */
    private static void newObject() {
        DoorScan x = new DoorScan();
        Kit.due("runs, steps and values", x.runs() + " " + x.steps() + " " + x.values(), "0 0 0");
        Kit.due("isSound()", x.isSound(), true);
        Kit.throwing("countHanded(0, 1)", "IndexOutOfBounds", () -> x.countHanded(0, 1));
        Kit.throwing("next()", "IllegalState", () -> x.next());
        Kit.due("the first expression", x.number(0), 0);
        for (int p = 0; p <= 5; p++) {
            Kit.due("a body of " + p, x.define(p, 0), false);
        }
        Kit.throwing("still no run", "IllegalState", () -> x.next());
        Kit.due("the first letter", x.type('a'), 1);
    }

    /** Promise 2: each character from 32 to 126, and "the number of characters" up to 60 */
    private static void letters() {
        for (int from = 32; from <= 126; from += 60) {
            DoorScan x = new DoorScan();
            int count = Math.min(60, 127 - from);
            for (int i = 0; i < count; i++) {
                Kit.due("type(" + (from + i) + ")", x.type((char) (from + i)), i + 1);
            }
            x.begin(x.text());
            x.next();
            Kit.due("length", x.length(), count);
            for (int i = 0; i < count; i++) {
                Kit.due("charAt(" + i + ")", (int) x.charAt(i), from + i);
            }
        }
    }

    /** Promise 4: "a text of the buffer, which is empty then" */
    private static void texts() {
        DoorScan x = new DoorScan();
        int[] lengths = {0, 1, 2, 59, 60, 0, 60, 1};
        for (int t = 0; t < lengths.length; t++) {
            for (int i = 1; i <= lengths[t]; i++) {
                Kit.due("type", x.type((char) ('a' + t)), i);
            }
            Kit.due("text()", x.text(), t);
        }
        for (int t = 0; t < lengths.length; t++) {
            x.begin(t);
            x.next();
            Kit.due("the text " + t, Kit.lastText(x), String.valueOf((char) ('a' + t)).repeat(lengths[t]));
            Kit.due("once", x.next(), 'f');
        }
    }

    private static int make(DoorScan x, int maker) {
        switch (maker) {
            case 0:
                return x.number(5);
            case 1:
                return x.text();
            case 2:
                return x.variable(0);
            case 3:
                return x.make('q', -1, -1, -1);
            case 4:
                return x.make('i', 0, 0, 0);
            case 5:
                return x.assign(':', 7, 0);
            case 6:
                return x.exchange('y', 0, 7);
            default:
                return x.call(5, 0, -1);
        }
    }

    /** "At most 80 expressions are numbered from 0": each call that makes one answers the next number. */
    private static void numbersOfExpressions() {
        DoorScan x = new DoorScan();
        for (int i = 0; i < 80; i++) {
            Kit.due("expression " + i, make(x, i % MAKERS), i);
        }
        for (int maker = 0; maker < MAKERS; maker++) {
            int one = maker;
            Kit.throwing("expression 80", "IllegalState", () -> make(x, one));
        }
        x.begin(79);
        Kit.due("the last one can be begun", Kit.row(x, 1), "!x");
        Kit.due("it can be a body", x.define(5, 79), false);
        Kit.due("it can be found values of", x.countHanded(79, 20), 0);
    }

    /** Each of the calls that make one can make the last one, and has the one before as a part. */
    private static void lastExpression() {
        for (int maker = 0; maker < MAKERS; maker++) {
            DoorScan x = new DoorScan();
            for (int i = 0; i < 79; i++) {
                x.number(i + 100);
            }
            Kit.due("the last one", make(x, maker), 79);
            int one = maker;
            Kit.throwing("one more", "IllegalState", () -> make(x, one));
            x.begin(79);
            Kit.due("next() of the last one", x.next(), maker == 2 || maker == 6 || maker == 7 ? 'e' : 'v');
        }
        DoorScan x = new DoorScan();
        for (int i = 0; i < 78; i++) {
            x.number(i);
        }
        x.text();
        Kit.due("a last one of the two before", x.make('.', 77, 78, -1), 79);
        x.begin(79);
        Kit.due("its value", Kit.row(x, 2), "'77' f");
    }

    /** "each made of earlier ones": not of itself, nor of later ones */
    private static void earlierOnes() {
        DoorScan x = new DoorScan();
        x.number(3);
        for (int part = 1; part <= 2; part++) {
            int next = part;
            Kit.throwing("make", "IndexOutOfBounds", () -> x.make('!', next, -1, -1));
            Kit.throwing("make", "IndexOutOfBounds", () -> x.make('|', 0, next, -1));
            Kit.throwing("make", "IndexOutOfBounds", () -> x.make('i', 0, 0, next));
            Kit.throwing("assign", "IndexOutOfBounds", () -> x.assign(':', 0, next));
            Kit.throwing("call", "IndexOutOfBounds", () -> x.call(0, next, -1));
            Kit.throwing("call", "IndexOutOfBounds", () -> x.call(0, 0, next));
            Kit.throwing("define", "IndexOutOfBounds", () -> x.define(0, next));
            Kit.throwing("begin", "IndexOutOfBounds", () -> x.begin(next));
        }
        Kit.due("the next one", x.make('[', 0, 0, 0), 1);
        Kit.due("the next one", x.make('i', 1, 0, 1), 2);
        Kit.due("no body was given", x.define(0, 2), false);
        Kit.due("no run was begun", x.runs(), 0);
    }

    /** Promise 10: "in place of another one. Returns whether it had one" */
    private static void bodies() {
        DoorScan x = Kit.language();
        int[] parts = {Kit.put(x, "(S 1)"), Kit.put(x, "(S 2)")};
        for (int p = 0; p <= 5; p++) {
            Kit.due("define", x.define(p, parts[0]), false);
            Kit.due("define again", x.define(p, parts[1]), true);
            Kit.due("with the same one", x.define(p, parts[1]), true);
            int call = x.call(p, parts[0], -1);
            Kit.due("the part is outside of the procedure", x.countHanded(call, 20), 0);
            x.begin(x.call(p, 0, -1));
            Kit.due("the body in its place", Kit.row(x, 2), "2 f");
        }
    }

    /** A body that is given while a run goes on is that of the calls that are made from then on. */
    private static void changedBodies() {
        DoorScan x = Kit.language("0=(S (t 1 3))");
        int other = Kit.put(x, "(S 9)");
        x.begin(Kit.put(x, "(call 0 (t 1 2))"));
        Kit.due("two values", Kit.row(x, 2), "1 2");
        Kit.due("another body", x.define(0, other), true);
        Kit.due("what was begun goes on", Kit.row(x, 3), "3 9 f");
    }

    /** Promise 11: "the number of runs that were begun", and "no variable has a value" */
    private static void begun() {
        DoorScan x = Kit.language("0=(S (: 2 5))");
        int all = Kit.put(x, "(; (: 0 1) (; (: 7 2) (& (: 3 (t 1 2)) (s 'abc' (& (T 3) (call 0 1))))))");
        int next = Kit.put(x, "(| 4 v0)");
        for (int i = 0; i < 4; i++) {
            Kit.due("begin", x.begin(all), 2 * i + 1);
            for (int v = 0; v <= 7; v++) {
                Kit.due("variable " + v + " of a new run", x.hasVariable(v), false);
            }
            for (int asked = 0; asked < i; asked++) {
                x.next();
            }
            Kit.due("variable 0 of the run", x.hasVariable(0), i > 0);
            Kit.due("begin another one", x.begin(next), 2 * i + 2);
            Kit.throwing("no value yet", "NoSuchElement", () -> x.kind());
            Kit.due("variable 7 of a new run", x.hasVariable(7), false);
            Kit.due("its values", Kit.row(x, 2), "4 !x");
        }
        Kit.due("begin the same one", x.begin(next), 9);
        Kit.due("anew", Kit.row(x, 1), "4");
        Kit.due("begin the same one", x.begin(next), 10);
        Kit.due("anew", Kit.row(x, 2), "4 !x");
    }

    /** Promise 12: "behind 'f' and 'e' the same again" */
    private static void behindTheLast() {
        DoorScan x = new DoorScan();
        for (String notation : new String[] {"(< 2 1)", "(t 1 2)", "v0", "(| 1 v0)", "(e (r 1))", "(@ (c v0))"}) {
            x.begin(Kit.put(x, notation));
            char last = 'v';
            for (int i = 0; i < 5 && last == 'v'; i++) {
                last = x.next();
            }
            String figures = x.runs() + " " + x.steps() + " " + x.values() + " " + x.errorShare();
            String places = Kit.answer(() -> x.error()) + " " + x.trace();
            for (int i = 0; i < 3; i++) {
                Kit.due("next() again of " + notation, x.next(), last);
                Kit.due("the figures", x.runs() + " " + x.steps() + " " + x.values() + " " + x.errorShare(), figures);
                Kit.due("the error", Kit.answer(() -> x.error()) + " " + x.trace(), places);
                Kit.throwing("no value any more", "NoSuchElement", () -> x.kind());
            }
        }
    }

    /** Promises 13 to 16: it is the last value until the next one is asked for, whatever else is called. */
    private static void lastValue() {
        DoorScan x = new DoorScan();
        int row = Kit.put(x, "(| (. 'ab' 'c') (| 7 'de'))");
        x.begin(row);
        for (String value : new String[] {"'abc'", "7", "'de'"}) {
            x.next();
            Kit.due("the last value", Kit.shown(x), value);
            x.countHanded(Kit.put(x, "(. 'x' (t 1 9))"), 20);
            x.isSound();
            Kit.put(x, "'other'");
            x.define(0, row);
            Kit.throwing("what is refused", "IndexOutOfBounds", () -> x.begin(-1));
            Kit.due("still the last value", Kit.shown(x), value);
        }
        Kit.due("no more", x.next(), 'f');
    }

    private static void charactersOfValues() {
        for (String text : new String[] {"'a'", "''", "0", "-1", "-2147483648", "2147483647",
            "'123456789012345678901234567890123456789012345678901234567890'"}) {
            DoorScan x = new DoorScan();
            x.begin(Kit.put(x, text));
            x.next();
            String plain = text.replace("'", "");
            Kit.due("length() of " + text, x.length(), plain.length());
            for (int i = -2; i <= 62; i++) {
                int index = i;
                Kit.throwing("charAt(" + i + ") of " + text, i >= 0 && i < plain.length() ? plain.substring(i, i + 1)
                        : "IndexOutOfBounds", () -> x.charAt(index));
            }
        }
    }

    /** Promise 17: each of its letters */
    private static void errors() {
        String[] runs = {"x v0", "z (/ 1 0)", "o (. 1 '" + "1234567890".repeat(6) + "')", "b n", "t (@ 1)",
            "l (e (r 1))", "d (call 0 1)"};
        for (String run : runs) {
            DoorScan x = Kit.language("0=(call 0 1)");
            x.begin(Kit.put(x, run.substring(2)));
            Kit.throwing("error() ahead of it", "NoSuchElement", () -> x.error());
            Kit.due("next()", x.next(), 'e');
            Kit.due("error()", x.error(), run.charAt(0));
            Kit.due("one of all runs", x.errorShare(), 1.0f);
        }
    }

    /** Promises 20 and 21: a variable "of the run itself", behind each value, behind 'f' and behind 'e' */
    private static void variablesOfTheRun() {
        String set = "(; (: 0 -3) (; (: 1 '-999999999') (; (: 2 '1000000000')"
                + " (; (: 3 '') (; (: 4 (c 1)) (: 7 (| 1 2)))))))";
        String[] due = {"-3", "-999999999", "UnsupportedOperation", "UnsupportedOperation", "UnsupportedOperation",
            "NoSuchElement", "NoSuchElement"};
        for (String end : new String[] {"(call 0 1)", "(< 2 1)", "(call 1 1)", "(@ (c (: 6 1)))", "(s 'ab' (T 2))"}) {
            DoorScan y = Kit.language("0=(; (: 6 1) (S 1))", "1=(; (: 6 1) v5)");
            y.begin(Kit.put(y, "(; " + set + " " + end + ")"));
            for (int asked = 0; asked < 2; asked++) {
                y.next();
                for (int v = 0; v < due.length; v++) {
                    int variable = v;
                    Kit.throwing("variableNow(" + v + ")", due[v], () -> y.variableNow(variable));
                    Kit.due("hasVariable(" + v + ")", y.hasVariable(v), v < 5);
                }
                Kit.due("variableNow(7)", y.variableNow(7), 1);
            }
        }
        DoorScan z = new DoorScan();
        z.begin(Kit.put(z, "(| (u 0 (t 1 2)) (: 1 5))"));
        String[] first = {"1", "2", "NoSuchElement", "NoSuchElement"};
        for (int i = 0; i < 4; i++) {
            Kit.due("next()", z.next(), i < 3 ? 'v' : 'f');
            Kit.throwing("the one that is undone", first[i], () -> z.variableNow(0));
            Kit.due("the one that is not", z.hasVariable(1), i >= 2);
        }
    }

    /** Promises 22 and 23: those of the run itself, between its values */
    private static void subjectAndPlace() {
        DoorScan x = new DoorScan();
        x.begin(Kit.put(x, "(| (s 'abc' (T 0)) (| (T 1) (s 'x' (@ (c (s 'yz' (T 0)))))))"));
        for (int i = 0; i < 5; i++) {
            Kit.due("subjectLength() outside", x.subjectLength(), 0);
            Kit.due("place() outside", x.place(), 1);
            Kit.due("next()", x.next(), i < 3 ? 'v' : 'f');
        }
        String most = "123456789012345678901234567890123456789012345678901234567890";
        for (int place = 1; place <= 61; place += 15) {
            x.begin(Kit.put(x, "(s '" + most + "' (& (T " + place + ") v0))"));
            Kit.due("next()", x.next(), 'e');
            Kit.due("subjectLength()", x.subjectLength(), 60);
            Kit.due("place()", x.place(), place);
        }
    }

    /** Promises 26 and 28: runs that are begun, asked or not, and values that are given */
    private static void countsOfRuns() {
        DoorScan x = new DoorScan();
        int row = Kit.put(x, "(t 1 3)");
        int given = 0;
        for (int i = 0; i <= 5; i++) {
            Kit.due("begin", x.begin(row), i + 1);
            for (int asked = 0; asked < i; asked++) {
                x.next();
            }
            given += Math.min(i, 3);
            Kit.due("runs()", x.runs(), i + 1);
            Kit.due("values()", x.values(), given);
            Kit.due("steps()", x.steps(), 3L * i);
        }
    }

    /** Promise 29: "both converted to float"; an error counts once for its run. */
    private static void sharesOfErrors() {
        DoorScan x = new DoorScan();
        int error = Kit.put(x, "v0");
        int none = Kit.put(x, "1");
        Kit.throwing("errorShare() without runs", "Arithmetic", () -> x.errorShare());
        int errors = 0;
        for (int runs = 1; runs <= 40; runs++) {
            boolean isError = runs % 3 == 1;
            x.begin(isError ? error : none);
            Kit.due("ahead of the error", x.errorShare(), (float) errors / (float) runs);
            x.next();
            x.next();
            errors += isError ? 1 : 0;
            Kit.due("errorShare()", x.errorShare(), (float) errors / (float) runs);
        }
    }

    /** Promise 30: "both converted to double", of all runs; those without a value count by their steps. */
    private static void meansOfSteps() {
        DoorScan x = new DoorScan();
        int none = Kit.put(x, "(< 2 1)");
        int row = Kit.put(x, "(& (t 1 3) 5)");
        Kit.throwing("meanSteps() without runs", "Arithmetic", () -> x.meanSteps());
        x.begin(none);
        x.next();
        Kit.throwing("meanSteps() without values", "Arithmetic", () -> x.meanSteps());
        long steps = 3;
        int values = 0;
        for (int i = 0; i < 10; i++) {
            x.begin(row);
            for (int asked = 0; asked < 3; asked++) {
                x.next();
                steps += asked == 0 ? 5 : 1;
                values++;
                Kit.due("meanSteps()", x.meanSteps(), (double) steps / (double) values);
            }
        }
        x.begin(none);
        x.next();
        Kit.due("meanSteps() of all runs", x.meanSteps(), (double) (steps + 3) / (double) values);
    }
}
