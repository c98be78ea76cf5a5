/** Terms, 'Limits' and what the object is used for; promises 24, 25 and 31 have limits of their own. */
public final class LimitEdgesTest {
    public static void main(String[] args) {
        stepsOfOneAsking();
        stepsOfEachAsking();
        stepsOfLives();
        eachKindOfStep();
        within();
        withinOneAnother();
        inLives();
        asked();
        places();
        placesWithin();
        placesOfLimits();
        longChain();
        longestChain();
        stepsHanded();
        handedErrors();
        openAtMost();
        mostHanded();
        sound();
        lastCalls();
        Kit.end();
    }

    /** An expression that has 7, once, in so many steps. */
    private static String heavy(int steps) {
        return "(; (e (l (r 1) " + (steps - 6) + ")) 7)";
    }

    /** "error 'l' if asking for a value ... would take more than 1000 steps" */
    private static void stepsOfOneAsking() {
        for (int steps = 998; steps <= 1003; steps++) {
            DoorScan x = new DoorScan();
            x.begin(Kit.put(x, heavy(steps)));
            Kit.due(steps + " steps", Kit.row(x, 2), steps <= 1000 ? "7 f" : "!l");
            Kit.due("steps() then", x.steps(), Math.min(steps, 1000));
            DoorScan y = new DoorScan();
            y.begin(Kit.put(y, "(e (l (r 1) " + (steps - 4) + "))"));
            Kit.due(steps + " steps without a value", Kit.row(y, 1), steps <= 1000 ? "f" : "!l");
            Kit.due("steps() then", y.steps(), Math.min(steps, 1000));
        }
    }

    /** Each value has steps of its own; what is gone back into has none. */
    private static void stepsOfEachAsking() {
        for (int steps = 999; steps <= 1001; steps++) {
            DoorScan x = new DoorScan();
            x.begin(Kit.put(x, "(| 1 (| (& 2 " + heavy(steps - 3) + ") (t 1 3)))"));
            Kit.due("each with so many steps", Kit.row(x, 6), steps <= 1000 ? "1 7 1 2 3 f" : "1 !l");
            Kit.due("steps() then", x.steps(), steps <= 1000 ? steps + 5 : 1002);
        }
        DoorScan y = new DoorScan();
        y.begin(Kit.put(y, "(r " + heavy(999) + ")"));
        for (int i = 1; i <= 5; i++) {
            Kit.due("a value of 1000 steps at first, then of 999", Kit.row(y, 1), "7");
            Kit.due("steps() then", y.steps(), 1 + 999 * i);
        }
        DoorScan z = new DoorScan();
        z.begin(Kit.put(z, "(r " + heavy(1001) + ")"));
        Kit.due("too many", Kit.row(z, 1), "!l");
        Kit.due("steps() then", z.steps(), 1000);
    }

    /** "lives included" */
    private static void stepsOfLives() {
        for (int steps = 998; steps <= 1002; steps++) {
            DoorScan x = new DoorScan();
            x.begin(Kit.put(x, "(@ (c " + heavy(steps - 2) + "))"));
            Kit.due(steps + " steps with those of a life", Kit.row(x, 2), steps <= 1000 ? "7 f" : "!l");
            Kit.due("steps() then", x.steps(), Math.min(steps, 1000));
            DoorScan y = new DoorScan();
            y.begin(Kit.put(y, "(; (@ (c " + heavy(500) + ")) " + heavy(steps - 503) + ")"));
            Kit.due(steps + " steps, half of which are of a life", Kit.row(y, 2), steps <= 1000 ? "7 f" : "!l");
        }
    }

    private static void stepsOf(long want, String notation, String... bodies) {
        DoorScan x = Kit.language(bodies);
        x.begin(Kit.put(x, notation));
        Kit.row(x, 50);
        Kit.due("steps of " + notation, x.steps(), want);
    }

    /** "Each expression that is begun is a step", of whatever kind it is. */
    private static void eachKindOfStep() {
        for (String one : new String[] {"1", "'a'", "v0", "q", "p", "n", "b", "(b 1)", "f", "R", "(R 1)", "(S 1)",
            "(x 0 1)", "(y 0 1)", "(c 1)"}) {
            stepsOf(1, one);
        }
        for (String two : new String[] {"(: 0 1)", "(u 0 1)", "(! 1)", "(T 1)", "(m 0)", "(P 1)", "(A 1)", "(M 1)",
            "(U 1)", "(F 1)", "(H 1)", "(@ 1)", "(^ 1)", "(^ (c 1))", "(call 0 1)", "(e 1)", "(e b 1)", "(e n 1)",
            "(w b 1)", "(t b 1)"}) {
            stepsOf(2, two);
        }
        for (String three : new String[] {"(+ 1 2)", "(- 1 2)", "(* 1 2)", "(/ 1 2)", "(. 1 2)", "(< 1 2)", "(= 1 2)",
            "(~ 1 2)", "(t 1 9)", "(| 1 2)", "(& 1 2)", "(; 1 2)", "(e 1 2)", "(s 1 2)", "(l 1 1)", "(i 1 2 3)",
            "(call 0 1 2)", "(! (! 1))"}) {
            stepsOf(3, three);
        }
        stepsOf(4, "([ 1 1 1)");
        stepsOf(4, "(call 0 1)", "0=(S v0)");
        stepsOf(4, "(call 0 1)", "0=(R v0)");
        stepsOf(3, "(call 0 1)", "0=f");
        stepsOf(2, "(l 1 0)");
        stepsOf(3, "(@ (c 1))");
        stepsOf(4, "(@ (^ (c 1)))");
    }

    /** A procedure that calls itself till so many are within one another, and then has the values of the last part. */
    private static String deep(int procedure, int other, String last) {
        return procedure + "=(R (i (< 1 v0) (call " + other + " (- v0 1)) " + last + "))";
    }

    /** "Error 'd' if more than 30 procedures would be within one another" */
    private static void within() {
        for (int depth = 28; depth <= 33; depth++) {
            DoorScan x = Kit.language(deep(0, 0, "5"), deep(1, 2, "5"), deep(2, 1, "5"));
            for (int first = 0; first <= 2; first++) {
                x.begin(Kit.put(x, "(call " + first + " " + depth + ")"));
                Kit.due(depth + " procedures", Kit.row(x, 2), depth <= 30 ? "5 f" : "!d");
                Kit.due("the places", x.trace(), depth <= 30 ? 0 : 31);
            }
            DoorScan y = Kit.language("0=(S (i (< 1 v0) (call 0 (- v0 1)) 5))");
            y.begin(Kit.put(y, "(call 0 " + depth + ")"));
            Kit.due(depth + " procedures with 'S'", Kit.row(y, 2), depth <= 30 ? "5 f" : "!d");
        }
    }

    /** Those that are ended, or can be gone back into, are not around what is behind them, nor a call's parts in it. */
    private static void withinOneAnother() {
        for (String body : new String[] {"0=(S 1)", "0=(R 1)"}) {
            DoorScan x = Kit.language(body);
            int call = Kit.put(x, "(call 0 1)");
            int behind = call;
            int parts = call;
            for (int i = 0; i < 35; i++) {
                behind = x.make('&', call, behind, -1);
            }
            for (int i = 0; i < 35; i++) {
                parts = x.call(0, parts, -1);
            }
            x.begin(behind);
            Kit.due("36 calls one behind the other", Kit.row(x, 2), "1 f");
            x.begin(parts);
            Kit.due("36 calls, each a part of the next one", Kit.row(x, 2), "1 f");
        }
        DoorScan y = Kit.language(deep(0, 0, "5"));
        y.begin(Kit.put(y, "(call 0 30 (call 0 30))"));
        Kit.due("30 procedures in a part", Kit.row(y, 2), "5 f");
        y.begin(Kit.put(y, "(call 0 30 (call 0 31))"));
        Kit.due("31 procedures in a part", Kit.row(y, 2), "!d");
    }

    /** "in a run or a life": those of each are counted for themselves. */
    private static void inLives() {
        for (int depth = 29; depth <= 32; depth++) {
            DoorScan x = Kit.language(deep(0, 0, "(@ (c (call 1 " + depth + ")))"), deep(1, 1, "6"));
            x.begin(Kit.put(x, "(call 0 30)"));
            Kit.due(depth + " procedures in a life in 30", Kit.row(x, 1), depth <= 30 ? "6" : "!d");
            Kit.due("the places", x.trace(), depth <= 30 ? 0 : 31 + 1 + 30);
            DoorScan y = Kit.language(deep(0, 0, "(c (| 1 (call 1 " + depth + ")))"), deep(1, 1, "6"));
            y.begin(Kit.put(y, "(; (: 0 (call 0 30)) (| (@ v0) (@ v0)))"));
            Kit.due(depth + " procedures in a life that 30 have made", Kit.row(y, 2), depth <= 30 ? "1 6" : "1 !d");
        }
    }

    /** "and if a life would be asked within 8 others" */
    private static void asked() {
        for (int lives = 1; lives <= 11; lives++) {
            DoorScan x = new DoorScan();
            StringBuilder row = new StringBuilder("(| 6 7)");
            for (int i = 0; i < lives; i++) {
                row.insert(0, "(r (@ (: 0 (c ").append("))))");
            }
            x.begin(Kit.put(x, row.toString()));
            Kit.due(lives + " lives within one another", Kit.row(x, 2), lives <= 8 ? "6 6" : "!d");
            Kit.due("the places", x.trace(), lives <= 8 ? 0 : 9);
        }
        // what was asked and is not any more is not within
        DoorScan y = new DoorScan();
        int nine = Kit.put(y, nested(9, "1"));
        y.begin(nine);
        Kit.due("nine", Kit.row(y, 1), "!d");
        y.begin(Kit.put(y, "(; (: 0 (c (t 1 20))) (r (@ v0)))"));
        Kit.due("one that is asked again and again", Kit.row(y, 12), "1 2 3 4 5 6 7 8 9 10 11 12");
        y.begin(nine - 2);
        Kit.due("eight in a new run", Kit.row(y, 2), "1 f");
        DoorScan z = new DoorScan();
        z.begin(Kit.put(z, "(; (: 0 (c 1)) " + nested(7, "(@ v0)") + ")"));
        Kit.due("eight, the inner one of which was made outside", Kit.row(z, 2), "1 f");
        z.begin(Kit.put(z, "(; (: 0 (c 1)) " + nested(8, "(@ v0)") + ")"));
        Kit.due("nine, the inner one of which was made outside", Kit.row(z, 2), "!d");
        z.begin(Kit.put(z, "(; (: 0 (c 1)) (; (@ v0) " + nested(8, "(^ v0)") + "))"));
        Kit.due("a life that is not asked", Kit.row(z, 2), "c f");
    }

    /** So many lives, each asked within the one before. */
    private static String nested(int lives, String inner) {
        return "(@ (c ".repeat(lives) + inner + "))".repeat(lives);
    }

    /** The chain of the error that a run ends with: the error, and the places. */
    private static String chain(DoorScan x, int expression) {
        x.begin(expression);
        for (int i = 0; i < 30 && x.next() == 'v'; i++) {
            x.kind();
        }
        StringBuilder chain = new StringBuilder().append(x.error());
        for (int i = 0; i < x.trace(); i++) {
            chain.append(' ').append(x.traceAt(i));
        }
        return chain.toString();
    }

    /** "a chain of places: the expression at which it comes" */
    private static void places() {
        String[] errors = {"x v3", "x (x 0 1)", "x (y 0 1)", "x (call 2 1)", "z (/ 1 0)", "b n", "b b", "b (b 1)",
            "b (S 1)", "b (R 1)", "b R", "b f", "t (@ 1)", "t (^ 'a')", "d (call 1 31)",
            "o (. 1 '123456789012345678901234567890123456789012345678901234567890')", "l (e (r 1))",
            "d " + nested(9, "1")};
        for (String error : errors) {
            DoorScan x = Kit.language("0=1", deep(1, 1, "5"));
            int inner = Kit.put(x, error.substring(2));
            int outer = Kit.put(x, "(; (: 0 5) (| 1 (+ 2 (i 1 #" + inner + "))))");
            String places = chain(x, outer);
            Kit.due("the error of " + error, places.charAt(0), error.charAt(0));
            if ("xzbto".indexOf(error.charAt(0)) >= 0) {
                Kit.due("the places of " + error, places, error.charAt(0) + " " + inner);
            }
        }
    }

    /** "then each call and each '@' within which that is, from the inner one on" */
    private static void placesWithin() {
        for (String error : new String[] {"x v3", "z (/ 1 0)", "b n", "t (@ 1)", "x (call 5 1)", "b b"}) {
            DoorScan x = new DoorScan();
            int inner = Kit.put(x, error.substring(2));
            x.define(0, Kit.put(x, "(S (& 1 #" + inner + "))"));
            int call = Kit.put(x, "(call 0 1)");
            int twice = Kit.put(x, "(; (: 4 (c (| 4 (e #" + call + ")))) (; (@ v4) (@ v4)))");
            x.define(1, twice);
            int outer = Kit.put(x, "(call 1 1)");
            int outermost = Kit.put(x, "(@ (c (e (t 1 2) #" + outer + ")))");
            x.define(2, Kit.put(x, "(S 1)"));
            String places = error.charAt(0) + " " + inner;
            Kit.due("behind a call that gave a value", chain(x, Kit.put(x, "(& (call 2 1) #" + inner + ")")), places);
            places += " " + call;
            Kit.due("in a call", chain(x, call), places);
            // the second '@' is that behind the first one, and ahead of both ';'
            places += " " + (twice - 2) + " " + outer;
            Kit.due("in a life in a call", chain(x, outer), places);
            Kit.due("in a life in a call in a life", chain(x, outermost), places + " " + outermost);
        }
    }

    /** "for 'l' the one that would be begun"; 'd' comes at the call, or the '@', that would be within too many */
    private static void placesOfLimits() {
        DoorScan x = new DoorScan();
        int one = x.number(1);
        int round = x.make('r', one, -1, -1);
        int loop = x.make('e', round, -1, -1);
        Kit.due("the step ahead of which 'l' comes", chain(x, loop), "l " + one);
        x.define(0, loop);
        int call = x.call(0, one, -1);
        int ask = x.make('@', x.make('c', call, -1, -1), -1, -1);
        Kit.due("in a call in a life", chain(x, ask), "l " + one + " " + call + " " + ask);
        int body = x.call(1, one, -1);
        x.define(1, body);
        int outer = x.call(1, one, -1);
        StringBuilder want = new StringBuilder("d");
        for (int i = 0; i < 30; i++) {
            want.append(' ').append(body);
        }
        Kit.due("a call within 30 procedures", chain(x, outer), want + " " + outer);
    }

    /** Many places: 25 calls in the run and in each of 8 lives, in the last of which there is one life too many. */
    private static void longChain() {
        DoorScan x = new DoorScan();
        int first = Kit.put(x, "(call 0 1)");
        int scan = Kit.put(x, "(s '" + "a".repeat(24) + "' #" + first + ")");
        int call = Kit.put(x, "(call 0 (m 1))");
        int ask = Kit.put(x, "(@ (c #" + scan + "))");
        x.define(0, x.make('|', call, ask, -1));
        String calls = (" " + call).repeat(24) + " " + first;
        Kit.due("many places", chain(x, scan), "d" + (" " + ask + calls).repeat(9));
        Kit.due("how many", x.trace(), 9 * 26);
        Kit.throwing("behind the last place", "IndexOutOfBounds", () -> x.traceAt(9 * 26));
    }

    /** As many places as there may be: 30 calls in the run and in each of 8 lives, and a life that would be asked. */
    private static void longestChain() {
        DoorScan x = new DoorScan();
        int one = x.number(1);
        int[] calls = new int[6];
        for (int p = 1; p <= 5; p++) {
            calls[p] = x.call(p, one, -1);
            x.define(p - 1, calls[p]);
        }
        // the last procedure goes round till the place is behind all
        calls[0] = Kit.put(x, "(call 0 (m 1))");
        int first = Kit.put(x, "(call 0 1)");
        int scan = Kit.put(x, "(s 'aaaa' #" + first + ")");
        int ask = Kit.put(x, "(@ (c #" + scan + "))");
        x.define(5, x.make('|', calls[0], ask, -1));
        StringBuilder places = new StringBuilder(" ").append(ask);
        for (int depth = 30; depth >= 2; depth--) {
            places.append(' ').append(calls[(depth - 1) % 6]);
        }
        places.append(' ').append(first);
        Kit.due("the most places", chain(x, scan), "d" + places.toString().repeat(9));
        Kit.due("so many", x.trace(), 279);
        Kit.due("the last one", x.traceAt(278), first);
        Kit.throwing("behind the last one", "IndexOutOfBounds", () -> x.traceAt(279));
    }

    // ---- the second way

    /** "The error l comes here ahead of the step 1001 of all" */
    private static void stepsHanded() {
        for (int all = 998; all <= 1002; all++) {
            DoorScan x = new DoorScan();
            int one = Kit.put(x, heavy(all));
            Kit.due(all + " steps of one value", x.countHanded(one, 20), all <= 1000 ? 1 : 0);
            int two = Kit.put(x, "(| " + heavy(400) + " " + heavy(all - 401) + ")");
            Kit.due(all + " steps of two values", x.countHanded(two, 20), all <= 1000 ? 2 : 1);
            Kit.due("the first one", x.handed(two, 0), 7);
            Kit.throwing("the second one", all <= 1000 ? "7" : "NoSuchElement", () -> x.handed(two, 1));
            int many = Kit.put(x, "(| (t 1 18) (| 19 " + heavy(all - 6) + "))");
            Kit.due(all + " steps of twenty values", x.countHanded(many, 20), all <= 1000 ? 20 : 19);
        }
    }

    /** "'t' comes at a 'c'", and "those ahead of an error count" */
    private static void handedErrors() {
        String fifty = "'" + "1234567890".repeat(5) + "'";
        for (String error : new String[] {"(c 1)", "(! (c 1))", "(@ 1)", "(^ 1)", "(@ (c 1))", "v0", "(/ 1 0)", "n",
            "f", "b", "(call 1 1)", "(call 0 1)", "(. " + fifty + " '12345678901')", "(e (r 1))"}) {
            for (int values = 0; values <= 2; values++) {
                DoorScan x = Kit.language("0=(S (c 1))");
                int row = Kit.put(x, "(| (t 1 " + values + ") " + error + ")");
                Kit.due(values + " values ahead of " + error, x.countHanded(row, 20), values);
                for (int index = 0; index <= 3; index++) {
                    int asked = index;
                    Kit.throwing("handed " + index, index < values ? String.valueOf(index + 1) : "NoSuchElement",
                            () -> x.handed(row, asked));
                }
                Kit.due("nothing of this is counted", x.runs() + x.steps() + x.values(), 0L);
            }
        }
    }

    /** "if more than 150 expressions would be open" */
    private static void openAtMost() {
        for (int open = 148; open <= 152; open++) {
            DoorScan x = new DoorScan();
            int row = x.number(7);
            for (int i = 0; i < (open - 1) / 2; i++) {
                row = x.make('&', 0, row, -1);
            }
            if (open % 2 == 0) {
                row = x.make('r', row, -1, -1);
            }
            Kit.due(open + " open", x.countHanded(row, 1), open <= 150 ? 1 : 0);
        }
    }

    /** "the most values that are asked for, 1 to 20", "the index of the value, 0 to 19" */
    private static void mostHanded() {
        for (int values = 0; values <= 22; values++) {
            DoorScan x = new DoorScan();
            int row = Kit.put(x, "(t 1 " + values + ")");
            for (int most = 1; most <= 20; most++) {
                Kit.due("countHanded of " + values, x.countHanded(row, most), Math.min(values, most));
            }
            for (int index = 0; index <= 19; index++) {
                int asked = index;
                Kit.throwing("handed " + index + " of " + values, index < values ? String.valueOf(index + 1)
                        : "NoSuchElement", () -> x.handed(row, asked));
            }
        }
    }

    /** Promise 31: what has a life, and what comes to a limit, is not compared. */
    private static void sound() {
        DoorScan x = Kit.language(deep(0, 0, "5"), "1=(S (c 1))", "2=(S (call 1 1))");
        for (String row : new String[] {"(c 1)", "(@ (c 1))", "(call 1 1)", "(call 2 1)", "(call 0 31)", "(call 0 30)",
            "(e (r 1))", "(r 1)", "(@ 1)", "v0", "(| 1 v0)"}) {
            Kit.put(x, row);
            Kit.due("isSound() with " + row, x.isSound(), true);
        }
        for (int steps = 99; steps <= 102; steps++) {
            Kit.values("7 f", heavy(steps));
        }
    }

    /** "An object is used for at most 512 calls": the last ones answer as the first ones. */
    private static void lastCalls() {
        DoorScan x = new DoorScan();
        int row = x.make('r', x.make('+', x.number(3), x.number(4), -1), -1, -1);
        x.begin(row);
        for (int calls = 5; calls < 512; calls += 3) {
            Kit.due("next()", x.next(), 'v');
            Kit.due("value()", x.value(), 7);
            Kit.due("countHanded", x.countHanded(row, 20), 20);
        }
        DoorScan y = new DoorScan();
        int heavy = Kit.put(y, "(r " + heavy(999) + ")");
        y.begin(heavy);
        for (int i = 1; i <= 500; i++) {
            Kit.due("next()", y.next(), 'v');
        }
        Kit.due("values()", y.values(), 500);
        Kit.due("steps()", y.steps(), 499501L);
        Kit.due("meanSteps()", y.meanSteps(), 499501.0 / 500.0);
    }
}
