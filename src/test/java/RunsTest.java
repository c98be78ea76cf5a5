/** Promises 11 to 23: a run, and what is asked of it. */
public final class RunsTest {
    public static void main(String[] args) {
        withoutRun();
        promise11();
        promise12();
        promises13To16();
        promises17To19();
        chains();
        promises20And21();
        promises22And23();
        Kit.end();
    }

    private static void withoutRun() {
        DoorScan x = Kit.language("0=1");
        Kit.throwing("next()", "IllegalState", () -> x.next());
        Kit.throwing("kind()", "IllegalState", () -> x.kind());
        Kit.throwing("value()", "IllegalState", () -> x.value());
        Kit.throwing("length()", "IllegalState", () -> x.length());
        Kit.throwing("charAt(9)", "IllegalState", () -> x.charAt(9));
        Kit.throwing("error()", "IllegalState", () -> x.error());
        Kit.throwing("trace()", "IllegalState", () -> x.trace());
        Kit.throwing("traceAt(9)", "IllegalState", () -> x.traceAt(9));
        Kit.throwing("hasVariable(0)", "IllegalState", () -> x.hasVariable(0));
        Kit.throwing("hasVariable(8)", "IllegalArgument", () -> x.hasVariable(8));
        Kit.throwing("variableNow(0)", "IllegalState", () -> x.variableNow(0));
        Kit.throwing("variableNow(-1)", "IllegalArgument", () -> x.variableNow(-1));
        Kit.throwing("subjectLength()", "IllegalState", () -> x.subjectLength());
        Kit.throwing("place()", "IllegalState", () -> x.place());
    }

    private static void promise11() {
        DoorScan x = new DoorScan();
        int set = Kit.put(x, "(& (: 0 (t 1 3)) (s 'abc' (m 1)))");
        int get = Kit.put(x, "v0");
        Kit.due("begin", x.begin(set), 1);
        Kit.due("its values", Kit.row(x, 1), "'a'");
        Kit.throwing("begin(-1)", "IndexOutOfBounds", () -> x.begin(-1));
        Kit.throwing("begin(99)", "IndexOutOfBounds", () -> x.begin(99));
        Kit.due("the run goes on behind what was thrown", Kit.row(x, 1), "'a'");
        Kit.due("its variable", x.variableNow(0), 2);
        Kit.due("begin again", x.begin(get), 2);
        Kit.due("no variable has a value", x.hasVariable(0), false);
        Kit.throwing("there is no value yet", "NoSuchElement", () -> x.kind());
        Kit.due("the new run", Kit.row(x, 1), "!x");
        Kit.due("begin behind an error", x.begin(set), 3);
        Kit.throwing("no error yet", "NoSuchElement", () -> x.error());
        Kit.due("no chain", x.trace(), 0);
        Kit.due("the third run", Kit.row(x, 4), "'a' 'a' 'a' f");
        Kit.due("runs()", x.runs(), 3);
    }

    private static void promise12() {
        DoorScan x = new DoorScan();
        x.begin(Kit.put(x, "(t 1 2)"));
        Kit.due("next()", x.next(), 'v');
        Kit.due("next()", x.next(), 'v');
        Kit.due("next()", x.next(), 'f');
        long steps = x.steps();
        Kit.due("next() behind f", x.next(), 'f');
        Kit.due("next() behind f", x.next(), 'f');
        x.begin(Kit.put(x, "(| 1 (/ 1 0))"));
        Kit.due("next()", x.next(), 'v');
        Kit.due("next()", x.next(), 'e');
        Kit.due("next() behind e", x.next(), 'e');
        Kit.due("no steps behind f and e", x.steps(), steps + 5);
        Kit.due("no values behind f and e", x.values(), 3);
        Kit.due("one error", x.errorShare(), 0.5f);
    }

    private static void promises13To16() {
        DoorScan x = new DoorScan();
        x.begin(Kit.put(x, "(| -12 (| '-12' (| 'abc' (| '' (| (c 1) -2147483648)))))"));
        Kit.throwing("kind() ahead of a value", "NoSuchElement", () -> x.kind());
        Kit.throwing("value() ahead of a value", "NoSuchElement", () -> x.value());
        Kit.throwing("length() ahead of a value", "NoSuchElement", () -> x.length());
        Kit.throwing("charAt(0) ahead of a value", "NoSuchElement", () -> x.charAt(0));
        x.next();
        Kit.due("kind of a number", x.kind(), 'n');
        Kit.due("value of a number", x.value(), -12);
        Kit.due("length of a number", x.length(), 3);
        Kit.due("charAt(0) of a number", x.charAt(0), '-');
        Kit.due("charAt(2) of a number", x.charAt(2), '2');
        Kit.throwing("charAt(3) of a number", "IndexOutOfBounds", () -> x.charAt(3));
        Kit.throwing("charAt(-1) of a number", "IndexOutOfBounds", () -> x.charAt(-1));
        x.next();
        Kit.due("kind of a text", x.kind(), 't');
        Kit.due("value of a text", x.value(), -12);
        Kit.due("length of a text", x.length(), 3);
        x.next();
        Kit.throwing("value of abc", "UnsupportedOperation", () -> x.value());
        Kit.due("charAt(2) of abc", x.charAt(2), 'c');
        Kit.throwing("charAt of abc", "IndexOutOfBounds", () -> x.charAt(2147483647));
        x.next();
        Kit.due("length of the empty text", x.length(), 0);
        Kit.throwing("charAt(0) of the empty text", "IndexOutOfBounds", () -> x.charAt(0));
        Kit.throwing("value of the empty text", "UnsupportedOperation", () -> x.value());
        x.next();
        Kit.due("kind of a life", x.kind(), 'c');
        Kit.throwing("value of a life", "UnsupportedOperation", () -> x.value());
        Kit.throwing("length of a life", "UnsupportedOperation", () -> x.length());
        Kit.throwing("charAt(-1) of a life", "UnsupportedOperation", () -> x.charAt(-1));
        x.next();
        Kit.due("length of the least number", x.length(), 11);
        Kit.due("last digit of the least number", x.charAt(10), '8');
        x.next();
        Kit.throwing("kind() behind the last value", "NoSuchElement", () -> x.kind());
        Kit.throwing("value() behind the last value", "NoSuchElement", () -> x.value());
        Kit.throwing("length() behind the last value", "NoSuchElement", () -> x.length());
        Kit.throwing("charAt(0) behind the last value", "NoSuchElement", () -> x.charAt(0));
        x.begin(Kit.put(x, "(| 1 v0)"));
        Kit.due("a value and an error", Kit.row(x, 2), "1 !x");
        Kit.throwing("kind() behind an error", "NoSuchElement", () -> x.kind());
    }

    private static void promises17To19() {
        DoorScan x = new DoorScan();
        x.begin(Kit.put(x, "(| 1 (+ 2 (/ 1 0)))"));
        Kit.throwing("error() of a new run", "NoSuchElement", () -> x.error());
        x.next();
        Kit.throwing("error() behind a value", "NoSuchElement", () -> x.error());
        Kit.due("trace() behind a value", x.trace(), 0);
        Kit.throwing("traceAt(0) behind a value", "IndexOutOfBounds", () -> x.traceAt(0));
        x.next();
        Kit.due("error()", x.error(), 'z');
        Kit.due("trace()", x.trace(), 1);
        Kit.due("traceAt(0)", x.traceAt(0), 4);
        Kit.throwing("traceAt(1)", "IndexOutOfBounds", () -> x.traceAt(1));
        Kit.throwing("traceAt(-1)", "IndexOutOfBounds", () -> x.traceAt(-1));
        x.begin(Kit.put(x, "(< 2 1)"));
        x.next();
        Kit.throwing("error() behind f", "NoSuchElement", () -> x.error());
        Kit.due("trace() behind f", x.trace(), 0);
    }

    /** The chain of the error that a run ends with. */
    private static String chain(DoorScan x, int expression) {
        x.begin(expression);
        for (int i = 0; i < 100 && x.next() == 'v'; i++) {
            x.kind();
        }
        StringBuilder chain = new StringBuilder();
        chain.append(x.error());
        for (int i = 0; i < x.trace(); i++) {
            chain.append(' ').append(x.traceAt(i));
        }
        return chain.toString();
    }

    private static void chains() {
        DoorScan x = new DoorScan();
        int unset = Kit.put(x, "v5");
        int inner = Kit.put(x, "(call 1 7)");
        int outer = Kit.put(x, "(call 0 7)");
        x.define(1, Kit.put(x, "(; (S 1) #" + unset + ")"));
        x.define(0, Kit.put(x, "(S #" + inner + ")"));
        Kit.due("in two calls", chain(x, outer), "x " + unset + " " + inner + " " + outer);
        int life = Kit.put(x, "(c (+ 1 #" + outer + "))");
        int ask = Kit.put(x, "(r (@ (: 2 #" + life + ")))");
        int again = Kit.put(x, "(; (: 2 #" + life + ") (r (@ v2)))");
        Kit.due("in a life", chain(x, again), "x " + unset + " " + inner + " " + outer + " " + (again - 2));
        x.define(2, again);
        int third = Kit.put(x, "(call 2 7)");
        x.define(2, Kit.put(x, "(S #" + again + ")"));
        Kit.due("in a life in a call", chain(x, third),
                "x " + unset + " " + inner + " " + outer + " " + (again - 2) + " " + third);
        int part = Kit.put(x, "(call 0 #" + unset + ")");
        Kit.due("in the part of a call, which is not yet made", chain(x, part), "x " + unset);
        int none = Kit.put(x, "(call 5 7)");
        Kit.due("of a procedure without a body", chain(x, none), "x " + none);
        int behind = Kit.put(x, "(& (call 3 7) #" + unset + ")");
        x.define(3, Kit.put(x, "(S 1)"));
        Kit.due("behind a call that can be gone back into", chain(x, behind), "x " + unset);
        Kit.due("a value of the life that is made anew", x.begin(ask) > 0 && x.next() == 'v', true);
    }

    private static void promises20And21() {
        DoorScan x = new DoorScan();
        x.define(0, Kit.put(x, "(; (: 3 1) (; (S 5) v7))"));
        x.begin(Kit.put(x, "(; (: 1 '12') (; (: 2 'a') (; (: 4 (c 1)) (& (u 0 (t 1 2)) (call 0 1)))))"));
        Kit.due("hasVariable ahead of the first value", x.hasVariable(1), false);
        x.next();
        Kit.due("hasVariable(0)", x.hasVariable(0), true);
        Kit.due("hasVariable(3), which the procedure's is not", x.hasVariable(3), false);
        Kit.due("variableNow(0)", x.variableNow(0), 1);
        Kit.due("variableNow(1)", x.variableNow(1), 12);
        Kit.throwing("variableNow(2)", "UnsupportedOperation", () -> x.variableNow(2));
        Kit.throwing("variableNow(3)", "NoSuchElement", () -> x.variableNow(3));
        Kit.throwing("variableNow(4)", "UnsupportedOperation", () -> x.variableNow(4));
        Kit.throwing("hasVariable(-1)", "IllegalArgument", () -> x.hasVariable(-1));
        Kit.throwing("hasVariable(8)", "IllegalArgument", () -> x.hasVariable(8));
        Kit.throwing("variableNow(8)", "IllegalArgument", () -> x.variableNow(8));
        Kit.due("an error in the procedure", x.next(), 'e');
        Kit.due("variableNow(0) behind the error", x.variableNow(0), 1);
        x.begin(Kit.put(x, "(& (u 0 (t 1 2)) (: 1 v0))"));
        Kit.due("all values", Kit.row(x, 3), "1 2 f");
        Kit.due("the one that was undone", x.hasVariable(0), false);
        Kit.due("the one that was not", x.variableNow(1), 2);
    }

    private static void promises22And23() {
        DoorScan x = new DoorScan();
        x.begin(Kit.put(x, "(| (s 'abc' (m 2)) (s 'ab' (; (m 1) v0)))"));
        Kit.due("subjectLength() of a new run", x.subjectLength(), 0);
        Kit.due("place() of a new run", x.place(), 1);
        x.next();
        Kit.due("subjectLength() behind a value", x.subjectLength(), 0);
        Kit.due("place() behind a value", x.place(), 1);
        Kit.due("the error", x.next(), 'e');
        Kit.due("subjectLength() at an error within a scanning", x.subjectLength(), 2);
        Kit.due("place() at an error within a scanning", x.place(), 2);
        x.begin(Kit.put(x, "(s 'ab' (@ (c (s 'xyzu' (; (m 3) v0)))))"));
        Kit.due("an error within a life", x.next(), 'e');
        Kit.due("subjectLength() of the run itself", x.subjectLength(), 2);
        Kit.due("place() of the run itself", x.place(), 1);
    }
}
