/** Promises 1 to 10: a new object, and how expressions are made. */
public final class ExpressionsTest {
    private static final String WITHOUT = "qpnf";
    private static final String WITH_A = "r!TmPAMUFHSc@^";
    private static final String MAYBE_A = "Rb";
    private static final String WITH_AB = "|&;t+-*/.<=~ls";
    private static final String MAYBE_B = "ew";

    public static void main(String[] args) {
        promise01();
        promise02();
        promise03();
        promise04();
        promise05();
        promise06();
        promise07();
        promise08();
        promise09();
        promise10();
        full();
        Kit.end();
    }

    private static void promise01() {
        DoorScan x = new DoorScan();
        Kit.due("runs() of a new object", x.runs(), 0);
        Kit.due("steps() of a new object", x.steps(), 0);
        Kit.due("values() of a new object", x.values(), 0);
        Kit.due("isSound() of a new object", x.isSound(), true);
        Kit.throwing("begin(0) of a new object", "IndexOutOfBounds", () -> x.begin(0));
        Kit.throwing("next() of a new object", "IllegalState", () -> x.next());
        Kit.due("the first expression", x.number(1), 0);
        Kit.due("define of a new object", x.define(0, 0), false);
        DoorScan y = new DoorScan();
        Kit.due("the first expression of another object", y.number(1), 0);
    }

    private static void promise02() {
        DoorScan x = new DoorScan();
        Kit.due("type(32)", x.type((char) 32), 1);
        Kit.due("type(126)", x.type((char) 126), 2);
        for (int bad : new int[] {0, 31, 127, 200, 65535}) {
            Kit.throwing("type(" + bad + ")", "IllegalArgument", () -> x.type((char) bad));
        }
        for (int i = 3; i <= 60; i++) {
            Kit.due("type", x.type('a'), i);
        }
        Kit.throwing("type of 61", "IllegalState", () -> x.type('a'));
        Kit.throwing("type of 61 that is none", "IllegalArgument", () -> x.type((char) 10));
        Kit.due("text()", x.text(), 0);
        Kit.due("type behind text()", x.type('b'), 1);
        x.begin(0);
        x.next();
        Kit.due("length of the text", x.length(), 60);
        Kit.due("first character", x.charAt(0), ' ');
        Kit.due("second character", x.charAt(1), '~');
        Kit.due("last character", x.charAt(59), 'a');
    }

    private static void promise03() {
        for (int n : new int[] {0, 1, -1, 7, Integer.MAX_VALUE, Integer.MIN_VALUE}) {
            Kit.values(n + " f", String.valueOf(n));
        }
        DoorScan x = new DoorScan();
        Kit.due("number(5)", x.number(5), 0);
        Kit.due("number(5) again", x.number(5), 1);
    }

    private static void promise04() {
        Kit.values("'' f", "''");
        Kit.values("'ab-12' f", "'ab-12'");
        DoorScan x = new DoorScan();
        x.type('a');
        Kit.due("text()", x.text(), 0);
        Kit.due("text() of the empty buffer", x.text(), 1);
        x.begin(0);
        Kit.due("the first text", Kit.row(x, 2), "'a' f");
        x.begin(1);
        Kit.due("the second text", Kit.row(x, 2), "'' f");
    }

    private static void promise05() {
        DoorScan x = new DoorScan();
        Kit.due("variable(0)", x.variable(0), 0);
        Kit.due("variable(7)", x.variable(7), 1);
        for (int bad : new int[] {-1, 8, Integer.MIN_VALUE, Integer.MAX_VALUE}) {
            Kit.throwing("variable(" + bad + ")", "IllegalArgument", () -> x.variable(bad));
        }
        x.begin(1);
        Kit.due("a variable without a value", Kit.row(x, 1), "!x");
        Kit.values("4 f", "(; (: 7 4) v7)");
    }

    /** What make answers for a kind, with the parts that are told. */
    private static String made(int kind, int a, int b, int c) {
        DoorScan x = new DoorScan();
        x.number(1);
        x.number(2);
        return Kit.answer(() -> x.make((char) kind, a, b, c));
    }

    private static void promise06() {
        for (int kind = 0; kind < 300; kind++) {
            for (int told = 0; told < 8; told++) {
                int a = (told & 1) != 0 ? 0 : -1;
                int b = (told & 2) != 0 ? 1 : -1;
                int c = (told & 4) != 0 ? 0 : -1;
                String what = "make(" + kind + ", " + a + ", " + b + ", " + c + ")";
                Kit.due(what, made(kind, a, b, c), fits(kind, told) ? "2" : "IllegalArgument");
            }
        }
        Kit.due("a part that is not there", made('|', 0, 2, -1), "IndexOutOfBounds");
        Kit.due("a part below -1", made('|', -2, 0, -1), "IndexOutOfBounds");
        Kit.due("a part below -1 that may be left out", made('R', -2, -1, -1), "IndexOutOfBounds");
        Kit.due("c that is not there", made('i', 0, 0, 9), "IndexOutOfBounds");
        Kit.due("a part that is not there and one too many", made('r', 2, 0, -1), "IllegalArgument");
        Kit.due("a part below -1 that the kind has not", made('q', -2, -1, -1), "IllegalArgument");
        Kit.due("itself as a part", made('!', 2, -1, -1), "IndexOutOfBounds");
    }

    private static boolean fits(int kind, int told) {
        if (WITHOUT.indexOf(kind) >= 0) {
            return told == 0;
        }
        if (WITH_A.indexOf(kind) >= 0) {
            return told == 1;
        }
        if (MAYBE_A.indexOf(kind) >= 0) {
            return told == 0 || told == 1;
        }
        if (WITH_AB.indexOf(kind) >= 0) {
            return told == 3;
        }
        if (MAYBE_B.indexOf(kind) >= 0) {
            return told == 1 || told == 3;
        }
        return kind == '[' && told == 7 || kind == 'i' && (told == 3 || told == 7);
    }

    private static void promise07() {
        DoorScan x = new DoorScan();
        x.number(1);
        Kit.due("assign(':', 0, 0)", x.assign(':', 0, 0), 1);
        Kit.due("assign('u', 7, 1)", x.assign('u', 7, 1), 2);
        Kit.throwing("assign('x', 0, 0)", "IllegalArgument", () -> x.assign('x', 0, 0));
        Kit.throwing("assign('r', 0, 0)", "IllegalArgument", () -> x.assign('r', 0, 0));
        Kit.throwing("assign(':', -1, 0)", "IllegalArgument", () -> x.assign(':', -1, 0));
        Kit.throwing("assign(':', 8, 9)", "IllegalArgument", () -> x.assign(':', 8, 9));
        Kit.throwing("assign(':', 0, 3)", "IndexOutOfBounds", () -> x.assign(':', 0, 3));
        Kit.throwing("assign(':', 0, -1)", "IndexOutOfBounds", () -> x.assign(':', 0, -1));
        Kit.values("1 2 3 f", "(& (: 0 (t 1 3)) v0)");
    }

    private static void promise08() {
        DoorScan x = new DoorScan();
        Kit.due("exchange('x', 0, 7)", x.exchange('x', 0, 7), 0);
        Kit.due("exchange('y', 3, 3)", x.exchange('y', 3, 3), 1);
        Kit.throwing("exchange('u', 0, 1)", "IllegalArgument", () -> x.exchange('u', 0, 1));
        Kit.throwing("exchange('x', -1, 1)", "IllegalArgument", () -> x.exchange('x', -1, 1));
        Kit.throwing("exchange('x', 1, 8)", "IllegalArgument", () -> x.exchange('x', 1, 8));
    }

    private static void promise09() {
        DoorScan x = new DoorScan();
        x.number(1);
        Kit.due("call(0, 0, -1)", x.call(0, 0, -1), 1);
        Kit.due("call(5, 0, 1)", x.call(5, 0, 1), 2);
        Kit.throwing("call(6, 0, 0)", "IllegalArgument", () -> x.call(6, 0, 0));
        Kit.throwing("call(-1, 9, 0)", "IllegalArgument", () -> x.call(-1, 9, 0));
        Kit.throwing("call(0, -1, 0)", "IndexOutOfBounds", () -> x.call(0, -1, 0));
        Kit.throwing("call(0, 3, -1)", "IndexOutOfBounds", () -> x.call(0, 3, -1));
        Kit.throwing("call(0, 0, 3)", "IndexOutOfBounds", () -> x.call(0, 0, 3));
        Kit.throwing("call(0, 0, -2)", "IndexOutOfBounds", () -> x.call(0, 0, -2));
    }

    private static void promise10() {
        DoorScan x = new DoorScan();
        int body = Kit.put(x, "(S 1)");
        int other = Kit.put(x, "(S 2)");
        int call = Kit.put(x, "(call 5 0)");
        Kit.due("define(5, body)", x.define(5, body), false);
        x.begin(call);
        Kit.due("the first body", Kit.row(x, 2), "1 f");
        Kit.due("define(5, other)", x.define(5, other), true);
        x.begin(call);
        Kit.due("the body in its place", Kit.row(x, 2), "2 f");
        Kit.due("define(0, 0)", x.define(0, 0), false);
        Kit.throwing("define(6, 0)", "IllegalArgument", () -> x.define(6, 0));
        Kit.throwing("define(-1, 99)", "IllegalArgument", () -> x.define(-1, 99));
        Kit.throwing("define(1, 99)", "IndexOutOfBounds", () -> x.define(1, 99));
        Kit.throwing("define(1, -1)", "IndexOutOfBounds", () -> x.define(1, -1));
        Kit.due("define(1, 0) behind what was thrown", x.define(1, 0), false);
    }

    private static void full() {
        DoorScan x = new DoorScan();
        for (int i = 0; i < 80; i++) {
            Kit.due("number", x.number(i), i);
        }
        x.type('a');
        Kit.throwing("number of 81", "IllegalState", () -> x.number(1));
        Kit.throwing("text of 81", "IllegalState", () -> x.text());
        Kit.throwing("variable of 81", "IllegalState", () -> x.variable(0));
        Kit.throwing("variable 8 of 81", "IllegalArgument", () -> x.variable(8));
        Kit.throwing("make of 81", "IllegalState", () -> x.make('q', -1, -1, -1));
        Kit.throwing("make of 81 with no part", "IndexOutOfBounds", () -> x.make('r', 80, -1, -1));
        Kit.throwing("make of 81 with a bad kind", "IllegalArgument", () -> x.make('?', 80, -1, -1));
        Kit.throwing("assign of 81", "IllegalState", () -> x.assign(':', 0, 0));
        Kit.throwing("exchange of 81", "IllegalState", () -> x.exchange('x', 0, 0));
        Kit.throwing("call of 81", "IllegalState", () -> x.call(0, 0, -1));
        Kit.due("the buffer is as it was", x.type('b'), 2);
        Kit.due("the last can be begun", x.begin(79), 1);
        Kit.due("its value", Kit.row(x, 2), "79 f");
    }
}
