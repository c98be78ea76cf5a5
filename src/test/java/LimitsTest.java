/** Terms: limits, and what counts as a step. */
public final class LimitsTest {
    public static void main(String[] args) {
        steps();
        within();
        asked();
        kept();
        Kit.end();
    }

    /** The steps of the values up to the end. */
    private static void stepsOf(String notation, long want, String... bodies) {
        DoorScan x = Kit.language(bodies);
        x.begin(Kit.put(x, notation));
        Kit.row(x, 300);
        Kit.due("steps of " + notation, x.steps(), want);
    }

    private static void steps() {
        stepsOf("1", 1);
        stepsOf("(t 1 100)", 3);
        stepsOf("(& (t 1 3) 5)", 7);
        stepsOf("(+ (t 1 3) (t 1 2))", 13);
        stepsOf("(+ (| 'a' 1) 2)", 6);
        stepsOf("(l (t 1 9) 0)", 2);
        stepsOf("(i 1 2 3)", 3);
        stepsOf("(r (= 1 2))", 4);
        stepsOf("(e (t 1 3) 7)", 7);
        stepsOf("(w (< 2 1) 7)", 4);
        stepsOf("(call 0 (t 1 2))", 8, "0=(S v0)");
        stepsOf("(b 1)", 1);
        stepsOf("(S 1)", 1);
        stepsOf("(call 5 1)", 2);
        stepsOf("(@ (c (t 1 3)))", 5);
        stepsOf("(s 'abab' (U 'ab'))", 4);
        stepsOf("(x 0 1)", 1);
        // 1000 steps are within the limit, and each asking has them anew
        DoorScan x = Kit.language();
        int most = Kit.put(x, "(e (l (r 1) 995) 2)");
        x.begin(most);
        Kit.due("too many steps", x.next(), 'e');
        Kit.due("the error", x.error(), 'l');
        Kit.due("all steps", x.steps(), 1000);
        Kit.due("the chain", x.trace(), 1);
        Kit.due("the one that would be begun", x.traceAt(0), 0);
        for (int rest = 496; rest <= 498; rest++) {
            int due = 2 * rest + 6;
            DoorScan y = Kit.language();
            y.begin(Kit.put(y, "(; (e (l (r 1) " + rest + ") 2) 7)"));
            Kit.due("a value of " + due + " steps", y.next(), due <= 1000 ? 'v' : 'e');
            Kit.due("its steps", y.steps(), Math.min(1000, due));
        }
        DoorScan z = Kit.language();
        z.begin(Kit.put(z, "(r (; (e (l (r 1) 450)) 7))"));
        for (int i = 0; i < 20; i++) {
            Kit.due("each asking", z.next(), 'v');
        }
        DoorScan life = Kit.language();
        int ask = Kit.put(life, "(@ (c (w 1)))");
        life.begin(ask);
        Kit.due("too many steps within a life", life.next(), 'e');
        Kit.due("all steps with those of the life", life.steps(), 1000);
        Kit.due("the chain", life.trace(), 2);
        Kit.due("the one that would be begun", life.traceAt(0), 0);
        Kit.due("the '@' around it", life.traceAt(1), ask);
    }

    private static void within() {
        // 30 procedures within one another are within the limit
        for (int depth = 29; depth <= 31; depth++) {
            DoorScan x = Kit.language("0=(R (i (< 1 v0) (call 0 (- v0 1)) 5))");
            int call = Kit.put(x, "(call 0 " + depth + ")");
            x.begin(call);
            Kit.due("depth " + depth, x.next(), depth <= 30 ? 'v' : 'e');
            if (depth > 30) {
                Kit.due("the error", x.error(), 'd');
                Kit.due("the chain", x.trace(), 31);
                Kit.due("the outermost call", x.traceAt(30), call);
                Kit.due("a call within", x.traceAt(0), x.traceAt(29));
            }
        }
        // those that can be gone back into are not around what is behind them
        DoorScan x = Kit.language("0=(S 1)");
        StringBuilder row = new StringBuilder("(call 0 1)");
        for (int i = 0; i < 35; i++) {
            row.insert(0, "(& #3 ").append(")");
        }
        Kit.put(x, "(call 0 1)");
        x.begin(Kit.put(x, row.toString()));
        Kit.due("35 calls one behind the other", Kit.row(x, 2), "1 f");
        // a life has none around it
        DoorScan y = Kit.language("0=(R (i (< 1 v0) (call 0 (- v0 1)) (@ (c (call 1 20)))))",
                "1=(R (i (< 1 v0) (call 1 (- v0 1)) 6))");
        y.begin(Kit.put(y, "(call 0 20)"));
        Kit.due("20 calls within a life within 20 others", Kit.row(y, 1), "6");
    }

    private static void asked() {
        for (int lives = 7; lives <= 9; lives++) {
            DoorScan x = Kit.language();
            StringBuilder row = new StringBuilder("6");
            for (int i = 0; i < lives; i++) {
                row.insert(0, "(@ (c ").append("))");
            }
            int expression = Kit.put(x, row.toString());
            x.begin(expression);
            Kit.due(lives + " lives within one another", Kit.row(x, 1), lives <= 8 ? "6" : "!d");
            if (lives > 8) {
                Kit.due("the chain", x.trace(), 9);
                Kit.due("the '@' that would ask", x.traceAt(0), 2);
                Kit.due("the outermost '@'", x.traceAt(8), expression);
            }
        }
    }

    /** Many texts, lives and places to go back to, of which most are used only once. */
    private static void kept() {
        DoorScan x = Kit.language("0=(; (S v0) (call 0 v1))");
        x.begin(Kit.put(x, "(~ 'z' (. 'abc' (t 1 200000)))"));
        Kit.due("many texts in one asking", Kit.row(x, 1), "f");
        x.begin(Kit.put(x, "(r (; (e (l (r (: 0 (c (. 'a' 'b')))) 100)) (@ v0)))"));
        for (int i = 0; i < 150; i++) {
            Kit.due("many lives", Kit.row(x, 1), "'ab'");
        }
        x.begin(Kit.put(x, "(& (t 1 2) (r (& (: 1 (. (t 1 3) 'x')) (. v1 v1))))"));
        for (int i = 0; i < 150; i++) {
            Kit.due("many values of a repeated one", Kit.row(x, 1), "'" + (i % 3 + 1) + "x" + (i % 3 + 1) + "x'");
        }
    }
}
