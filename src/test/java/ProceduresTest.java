/** Terms: procedures. */
public final class ProceduresTest {
    public static void main(String[] args) {
        variables();
        suspending();
        returning();
        recursion();
        errors();
        loopsAsBodies();
        Kit.end();
    }

    private static void variables() {
        Kit.values("3 4 f", "(call 0 3 4)", "0=(; (S v0) (S v1))");
        Kit.values("3 !x", "(call 0 3)", "0=(; (S v0) (S v1))");
        Kit.values("!x", "(; (: 2 5) (call 0 3 4))", "0=(S v2)");
        Kit.values("3 5 f", "(; (: 0 5) (| (call 0 3) v0))", "0=(; (: 0 9) (R 3))");
        Kit.values("1 3 1 4 2 3 2 4 f", "(call 0 (t 1 2) (t 3 4))", "0=(; (S v0) (S v1))");
        Kit.values("4 3 1 f", "(call 0 (| 4 (| 3 1)))", "0=(R v0)");
        Kit.values("'a' f", "(call 0 'a')", "0=(R v0)");
        Kit.values("f", "(call 0 (< 2 1))", "0=(R v0)");
        Kit.values("f", "(call 0 1 (< 2 1))", "0=(R v0)");
    }

    private static void suspending() {
        Kit.values("1 2 3 f", "(call 0 3)", "0=(S (t 1 v0))");
        Kit.values("1 2 3 f", "(call 0 3)", "0=(e (: 1 (t 1 v0)) (S v1))");
        Kit.values("f", "(call 0 1)", "0=5");
        Kit.values("f", "(call 0 1)", "0=(t 1 5)");
        Kit.values("1 2 f", "(call 0 1)", "0=(| (S 1) (| (S 2) (| 5 (S 3))))");
        Kit.values("1 5 f", "(call 0 1)", "0=(| (S 1) (; (S 5) (S (< 2 1))))");
        Kit.values("1 7 2 7 f", "(& (: 0 (call 0 1)) (| v0 7))", "0=(| (S 1) (S 2))");
        Kit.values("11 21 12 22 f", "(+ (call 0 1) (call 1 1))", "0=(| (S 1) (S 2))", "1=(| (S 10) (S 20))");
        Kit.values("1 2 f", "(l (call 0 1) 2)", "0=(S (t 1 9))");
        Kit.values("1 1 1", "(r (call 0 1))", "0=(S 1)");
        Kit.values("1 2 2 1 f", "(call 0 1)", "0=(| (& (u 0 (t 1 2)) (S v0)) (; (S 2) (S 1)))");
        // 'S' in the parts of what has not yet a value is gone back into alone
        Kit.values("3 7 f", "(call 0 1)", "0=(; (: 1 7) (; (u 1 (S 3)) (S v1)))");
        Kit.values("3 2 f", "(s 'abc' (call 0 1))", "0=(; (m 1) (; (T (S 3)) (S p)))");
        Kit.values("3 4 5 6 f", "(call 0 1)", "0=(; (t (| (S 3) 1) (| (S 4) 0)) (| (S 5) (S 6)))");
        Kit.values("8 9 f", "(call 0 1)", "0=(; (l (S 8) 1) (; (U (S 9)) (y 0 0)))");
        Kit.values("5 6 f", "(call 0 5)", "0=(S (call 1 v0))", "1=(| (S v0) (S (+ v0 1)))");
    }

    private static void returning() {
        Kit.values("1 f", "(call 0 1)", "0=(R (t 1 5))");
        Kit.values("1 2 f", "(call 0 (t 1 2))", "0=(R v0)");
        Kit.values("1 7 f", "(call 0 1)", "0=(; (S 1) (; (R 7) (S 2)))");
        Kit.values("f", "(call 0 1)", "0=(; R (S 2))");
        Kit.values("1 f", "(call 0 1)", "0=(; (S 1) (; R (S 2)))");
        Kit.values("1 f", "(call 0 1)", "0=(; (S 1) (; f (S 2)))");
        Kit.values("f", "(call 0 1)", "0=(; (R (< 2 1)) (S 2))");
        Kit.values("2 f", "(call 0 (t 1 3))", "0=(R (= v0 2))");
        Kit.values("3 f", "(call 0 1)", "0=(e (: 0 (t 1 9)) (i (= v0 3) (R v0)))");
        Kit.values("3 f", "(call 0 1)", "0=(w 1 (w 1 (; (: 0 3) (R v0))))");
        Kit.values("4 f", "(call 0 1)", "0=(+ 1 (R (+ 1 3)))");
        Kit.values("5 f", "(call 0 1)", "0=(R (R 5))");
        Kit.values("5 f", "(call 0 1)", "0=(S (R 5))");
        Kit.values("3 4 f", "(call 0 (t 3 4))", "0=(call 1 (R v0))", "1=(S 9)");
        // what was moved or assigned stays behind 'R', and is undone as 'S' is gone back into
        Kit.values("'ab' 3 1 f", "(s 'abc' (| (& (call 0 3) (| 'ab' p)) p))", "0=(S (T v0))");
        Kit.values("3 3 f", "(s 'abc' (| (& (call 0 3) p) p))", "0=(R (T v0))");
    }

    private static void recursion() {
        Kit.values("120 f", "(call 0 5)", "0=(R (i (< 1 v0) (* v0 (call 0 (- v0 1))) 1))");
        Kit.values("3 2 1 f", "(call 0 3)", "0=(i (< 0 v0) (; (S v0) (S (call 0 (- v0 1)))))");
        Kit.values("1 2 3 f", "(call 0 3)", "0=(i (< 0 v0) (; (S (call 0 (- v0 1))) (S v0)))");
    }

    private static void errors() {
        Kit.values("!b", "(S 1)");
        Kit.values("!b", "(R 1)");
        Kit.values("!b", "R");
        Kit.values("!b", "f");
        Kit.values("!b", "(S (< 2 1))");
        Kit.values("!x", "(call 5 1)");
        Kit.values("f", "(call 5 (< 2 1))");
        Kit.values("!b", "(e (t 1 3) (call 0 1))", "0=b");
        Kit.values("!b", "(e (t 1 3) (call 0 1))", "0=n");
        Kit.values("7 f", "(e (t 1 3) (call 0 (b 7)))", "0=1");
    }

    /** A loop that is the body is left by 'b', but not the procedure, which has its variables still. */
    private static void loopsAsBodies() {
        Kit.values("10 f", "(call 0 7)", "0=(e 1 (b (R (+ (call 1 3) v0))))", "1=(R v0)");
        Kit.values("10 11 f", "(call 0 7)", "0=(w 1 (b (S (+ (call 1 3) v0))))", "1=(| (S v0) (S (+ v0 1)))");
        Kit.values("7 5 7 f", "(call 0 7)", "0=(e (b (| (S v0) (| (S (call 1 5)) (S v0)))))", "1=(e (b (S v0)) 2)");
        Kit.values("7 8 f", "(call 0 (t 7 8))", "0=(w (b (e (b (S (; (call 1 3) v0))))))", "1=(: 0 9)");
        Kit.values("3 f", "(| (call 0 7) 3)", "0=(e 1 (b (call 1 3)))", "1=(R v0)");
    }
}
