/** Promises 24, 25 and 31: values that are handed on, and that both ways find the same ones. */
public final class SecondWayTest {
    public static void main(String[] args) {
        promise24();
        open();
        firstValues();
        promise25();
        promise31();
        Kit.end();
    }

    private static int count(String notation, int most, String... bodies) {
        DoorScan x = Kit.language(bodies);
        return x.countHanded(Kit.put(x, notation), most);
    }

    private static void promise24() {
        Kit.due("all values", count("(t 1 5)", 20), 5);
        Kit.due("the most values", count("(t 1 5)", 3), 3);
        Kit.due("twenty values", count("(t 1 50)", 20), 20);
        Kit.due("no values", count("(t 2 1)", 20), 0);
        Kit.due("those ahead of an error", count("(| 1 (| 2 v0))", 20), 2);
        Kit.due("no error, as it is not asked for", count("(| 1 (| 2 v0))", 2), 2);
        Kit.due("error t at a 'c'", count("(| 1 (| (c 1) 2))", 20), 1);
        Kit.due("error t at a '@'", count("(| 1 (| (@ 1) 2))", 20), 1);
        // the limit is that of all values
        Kit.due("104 steps a value", count("(r (; (e (l (r 1) 98)) 7))", 20), 9);
        Kit.due("1000 steps of all", count("(; (e (l (r 1) 497) 2) 7)", 1), 1);
        Kit.due("1002 steps of all", count("(; (e (l (r 1) 498) 2) 7)", 1), 0);
        // 30 procedures may be within one another here, too
        String body = "0=(i (< 0 (: 0 (- v0 1))) (R (call 0 v0)) (R 5))";
        Kit.due("30 procedures", count("(call 0 30)", 1, body), 1);
        Kit.due("31 procedures", count("(call 0 31)", 1, body), 0);
        Kit.due("180 procedures one behind the other", count("(; (e (t 1 180) (call 0 1)) 7)", 2, "0=(R v0)"), 1);
        DoorScan x = Kit.language();
        int row = Kit.put(x, "(& (: 0 (t 1 5)) (s 'ab' (m 1)))");
        for (int bad : new int[] {0, -1, 21, Integer.MAX_VALUE}) {
            Kit.throwing("countHanded of " + bad, "IllegalArgument", () -> x.countHanded(row, bad));
            Kit.throwing("countHanded of nothing", "IndexOutOfBounds", () -> x.countHanded(99, bad));
        }
        Kit.throwing("countHanded(-1, 1)", "IndexOutOfBounds", () -> x.countHanded(-1, 1));
        x.begin(Kit.put(x, "(: 0 (t 7 8))"));
        x.next();
        long steps = x.steps();
        Kit.due("countHanded", x.countHanded(row, 20), 5);
        Kit.due("nothing of this is counted as steps", x.steps(), steps);
        Kit.due("nothing of this is counted as values", x.values(), 1);
        Kit.due("nothing of this is counted as runs", x.runs(), 1);
        Kit.due("the run has its value", x.value(), 7);
        Kit.due("the run has its variable", x.variableNow(0), 7);
        Kit.due("the run goes on", Kit.row(x, 2), "8 f");
        Kit.due("it is as in a new run", x.countHanded(Kit.put(x, "v0"), 1), 0);
    }

    /** An expression around another one, so that so many more are open while that one has its values. */
    private static int around(DoorScan x, int inner, int open) {
        int row = inner;
        if (open % 2 == 1) {
            row = x.make('|', row, 0, -1);
        }
        for (int i = 0; i < open / 2; i++) {
            row = x.make('&', 0, row, -1);
        }
        return row;
    }

    /** Checks how many expressions are open at most until the first value comes: 150 may be. */
    private static void peak(int want, String notation, String... bodies) {
        for (int open = 150 - want; open <= 151 - want; open++) {
            DoorScan x = new DoorScan();
            x.number(1);
            for (String body : bodies) {
                x.define(body.charAt(0) - '0', Kit.put(x, body.substring(2)));
            }
            int expression = around(x, Kit.put(x, notation), open);
            Kit.due(want + open + " open with " + notation, x.countHanded(expression, 1), want + open <= 150 ? 1 : 0);
        }
    }

    private static void open() {
        peak(1, "1");
        peak(3, "(+ #0 #0)");
        peak(5, "(& (+ #0 #0) #0)");
        peak(4, "(; (+ #0 #0) (+ #0 #0))");
        peak(4, "(i (+ #0 #0) (+ #0 #0))");
        peak(5, "(| (! (+ #0 #0)) #0)");
        peak(4, "(| (! #0) (+ #0 #0))");
        peak(6, "(& (: 0 (+ #0 #0)) #0)");
        peak(8, "(| (e (+ #0 #0) (+ #0 #0)) #0)");
        peak(5, "(e #0 (b (+ #0 (+ #0 #0))))");
        peak(6, "(| (w (; (+ #0 #0) (< #0 #0))) #0)");
        peak(6, "(s 'a' (s 'b' (T #0)))");
        peak(8, "(& (call 0 #0) (+ #0 (+ #0 #0)))", "0=(R (& #0 #0))");
        // also where what is left was all but the outermost one
        for (char kind : new char[] {';', 'i', '|'}) {
            for (int open = 149; open <= 150; open++) {
                DoorScan x = new DoorScan();
                int inner = around(x, x.number(1), open - 1);
                int first = kind == '|' ? x.make('=', x.number(2), 0, -1) : 0;
                int row = x.make(kind, first, inner, -1);
                Kit.due("all but one of " + open + " behind " + kind, x.countHanded(row, 1), open == 149 ? 1 : 0);
            }
        }
        for (int open = 149; open <= 152; open++) {
            DoorScan x = new DoorScan();
            int row = around(x, x.number(1), open - 1);
            int loop = x.make('e', x.make('b', row, -1, -1), -1, -1);
            Kit.due(open + " behind a loop that was all", x.countHanded(loop, 1), open <= 150 ? 1 : 0);
        }
        // as many are open for each value that is gone on with
        peak(10, "(& (: 0 (t #0 2)) (& (= v0 2) #0))");
        peak(11, "(s 11 (& (: 0 (U #0)) (& (= v0 2) #0)))");
        peak(11, "(s 11 (& (: 0 (F #0)) (& (= v0 2) #0)))");
        peak(12, "(& (call 0 #0) (+ #0 (+ #0 #0)))", "0=(S (& #0 #0))");
        peak(5, "(call 0 #0 #0)", "0=(R #0)");
        peak(6, "(| (call 0 #0) #0)", "0=(& #0 #0)");
    }

    /** What the first values are taken of is open until the last one of them is given, and left then. */
    private static void firstValues() {
        peak(6, "(& (l (+ #0 #0) #0) #0)");
        peak(6, "(& (l (+ #0 #0) #0) (+ #0 #0))");
        peak(10, "(& (l (+ #0 #0) #0) (& #0 (& #0 (+ #0 #0))))");
        peak(9, "(& (l (t #0 #0) 2) (& #0 #0))");
        peak(9, "(& (l (t #0 #0) (+ #0 #0)) #0)");
        peak(8, "(& (l (| #0 #0) 1) (& #0 (& #0 #0)))");
        peak(11, "(& (l (& #0 (& #0 #0)) 2) (& #0 #0))");
        peak(9, "(& (& (l (& #0 #0) (| 1 2)) #0) (& #0 #0))");
        // what is left there is not undone
        Kit.values("5 5 f", "(| (l (u 0 5) 1) v0)");
        Kit.values("5 !x", "(| (l (u 0 5) 2) v0)");
        Kit.values("1 2 2 f", "(| (l (u 0 (t 1 5)) 2) v0)");
        Kit.values("'a' 2 f", "(s 'abc' (| (l (m 1) 1) p))");
    }

    private static void promise25() {
        DoorScan x = Kit.language();
        int row = Kit.put(x, "(| 5 (| '-6' (| 'a' v0)))");
        Kit.due("handed 0", x.handed(row, 0), 5);
        Kit.due("handed 1", x.handed(row, 1), -6);
        Kit.throwing("handed 2", "UnsupportedOperation", () -> x.handed(row, 2));
        Kit.throwing("handed 3", "NoSuchElement", () -> x.handed(row, 3));
        Kit.throwing("handed 19", "NoSuchElement", () -> x.handed(row, 19));
        Kit.throwing("handed 20", "IllegalArgument", () -> x.handed(row, 20));
        Kit.throwing("handed -1", "IllegalArgument", () -> x.handed(row, -1));
        Kit.throwing("handed of nothing", "IndexOutOfBounds", () -> x.handed(99, -1));
        Kit.throwing("handed of nothing", "IndexOutOfBounds", () -> x.handed(-1, 0));
        int many = Kit.put(x, "(t 101 200)");
        Kit.due("handed 19", x.handed(many, 19), 120);
        Kit.due("there is no run", x.runs(), 0);
    }

    private static void promise31() {
        DoorScan x = Kit.language("0=(S (t 1 v0))", "1=(S (@ (c v0)))", "2=(call 2 v0)");
        Kit.put(x, "(call 0 5)");
        Kit.put(x, "(call 1 5)");
        Kit.put(x, "(call 2 5)");
        Kit.put(x, "(e (t 1 9) (i (< 3 (: 0 1)) (b (c 1)) n))");
        Kit.put(x, "(s 'ababab' (T (U 'b')))");
        Kit.put(x, "(w 1)");
        Kit.due("isSound()", x.isSound(), true);
        DoorScan y = new DoorScan();
        // a life is found through procedures, the bodies of which come later
        for (int i = 0; i < 6; i++) {
            y.call(i, i == 0 ? y.number(1) : 0, -1);
            y.define(i, y.make('S', y.number(1), -1, -1));
        }
        for (int i = 0; i < 5; i++) {
            y.define(i, Kit.put(y, "(S (call " + (i + 1) + " 1))"));
        }
        y.define(5, Kit.put(y, "(S (c 1))"));
        Kit.due("isSound() with a life far away", y.isSound(), true);
        x.begin(0);
        Kit.due("isSound() with a run", x.isSound(), true);
        Kit.due("isSound() begins no run", x.runs(), 1);
        Kit.due("isSound() counts no steps", x.steps(), 0);
        Kit.due("the run goes on", x.next(), 'v');
    }
}
