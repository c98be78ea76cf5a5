/** Terms: loops, and how 'b' and 'n' go on. */
public final class LoopsTest {
    public static void main(String[] args) {
        Kit.values("f", "(e (t 1 5))");
        Kit.values("f", "(e (t 1 5) (t 1 2))");
        Kit.values("6 f", "(; (: 1 0) (; (e (: 0 (t 1 3)) (: 1 (+ v1 v0))) v1))");
        Kit.values("3 f", "(; (e (: 0 (t 1 3)) (< 2 1)) v0)");
        Kit.values("f", "(w (< 2 1))");
        Kit.values("4 f", "(; (: 0 0) (; (w (< v0 4) (: 0 (+ v0 1))) v0))");
        Kit.values("3 f", "(; (: 0 0) (; (w (< (: 0 (+ v0 1)) 3)) v0))");
        Kit.values("3 f", "(; (: 0 0) (; (w (< (: 0 (+ v0 1)) 3) (< 2 1)) v0))");
        Kit.values("1 f", "(; (: 0 0) (; (w (i (< v0 1) (t 1 2)) (: 0 (+ v0 1))) v0))");
        Kit.values("1 f", "(; (: 0 0) (; (w (i (< v0 1) (t 1 2)) (; (: 0 (+ v0 1)) n)) v0))");
        // what is bounded is left in each round: only the last a is gone back into, and has its second part begun
        Kit.values("1 f", "(; (: 0 0) (; (: 1 0) (; (w (| (< (: 0 (+ v0 1)) 3) (& (: 1 (+ v1 1)) (< 2 1)))) v1)))");
        Kit.values("1 f", "(; (: 0 0) (; (: 1 0) (; (w (| (< (: 0 (+ v0 1)) 3) (& (: 1 (+ v1 1)) (< 2 1))) n) v1)))");
        Kit.values("1 f", "(; (: 0 0) (; (: 1 0) (; (w (| (< (: 0 (+ v0 1)) 3) (& (: 1 (+ v1 1)) (< 2 1))) 7) v1)))");
        Kit.values("0 f", "(; (: 0 0) (; (: 1 0) (; (w (< (: 0 (+ v0 1)) 3) (| n (: 1 (+ v1 1)))) v1)))");
        leaving();
        goingOn();
        nested();
        Kit.end();
    }

    private static void leaving() {
        Kit.values("7 8 f", "(e (t 1 3) (b (t 7 8)))");
        Kit.values("f", "(e (t 1 3) b)");
        Kit.values("5 f", "(| (e (t 1 3) b) 5)");
        Kit.values("7 8 f", "(w 1 (b (t 7 8)))");
        Kit.values("7 f", "(w (b 7) 1)");
        Kit.values("7 f", "(e (b 7) 1)");
        Kit.values("2 f", "(e (: 0 (t 1 5)) (i (= v0 2) (b v0)))");
        Kit.values("2 9 f", "(| (e (u 0 (t 1 5)) (i (= v0 2) (b v0))) 9)");
        Kit.values("3 2 f", "(; (: 0 5) (e (: 0 (t 2 9)) (b (| 3 v0))))");
        Kit.values("2 2 f", "(| (e (u 0 (t 1 5)) (i (= v0 2) (b v0))) v0)");
        Kit.values("7 f", "(e (t 1 3) (; (b 7) 5))");
        Kit.values("7 f", "(e (t 1 3) (& (t 1 2) (b 7)))");
        Kit.values("7 f", "(w (t 1 3) (& (t 1 2) (b 7)))");
        Kit.values("!b", "b");
        Kit.values("!b", "(b 5)");
        Kit.values("!b", "n");
        Kit.values("1 !b", "(| 1 (; (e (t 1 3)) b))");
        Kit.values("!b", "(e (t 1 3) (b b))");
        Kit.values("!b", "(e (t 1 3) (b n))");
    }

    private static void goingOn() {
        Kit.values("3 f", "(; (: 1 0) (; (e (: 0 (t 1 3)) (; (i (= v0 2) n) (: 1 (+ v1 1)))) (+ v1 1)))");
        Kit.values("2 f", "(; (: 1 0) (; (e (: 0 (t 1 3)) (; (i (= v0 2) n) (: 1 (+ v1 1)))) v1))");
        Kit.values("0 f", "(; (: 1 0) (; (e (: 0 (t 1 3)) (; n (: 1 (+ v1 1)))) v1))");
        Kit.values("4 f", "(; (: 0 0) (; (w (< (: 0 (+ v0 1)) 4) (; n (b 9))) v0))");
        Kit.values("3 f", "(; (: 0 0) (; (w (; (: 0 (+ v0 1)) (; (i (< v0 3) n) (< 2 1)))) v0))");
        goingOnInTheFirstPart();
    }

    /** In the a of an 'e': the latest place that may give another value is gone back to, as behind any failing. */
    private static void goingOnInTheFirstPart() {
        Kit.values("3 f", "(; (e (& (: 0 (t 1 3)) n)) v0)");
        Kit.values("2 f", "(; (: 1 0) (; (e (& (: 0 (t 1 3)) (i (= v0 2) n v0)) (: 1 (+ v1 1))) v1))");
        // also where a bounded part is around it, within the a
        Kit.values("5 f", "(; (e (: 0 (; n 5))) v0)");
        Kit.values("5 f", "(; (e (: 0 (; (| n 3) 5))) v0)");
        Kit.values("3 f", "(; (e (: 0 (; (: 1 (| n 3)) 5))) v1)");
        Kit.values("12 f", "(; (: 1 0) (; (e (& (: 0 (t 1 3)) (; n 5)) (: 1 9)) (+ v1 v0)))");
        Kit.values("9 f", "(; (: 1 0) (; (e (! n) (: 1 9)) v1))");
        Kit.values("0 f", "(; (e (: 0 (! n))) v0)");
        Kit.values("0 f", "(; (: 0 0) (; (e (: 0 (! (| n 6)))) v0))");
        Kit.values("6 f", "(; (e (: 0 (i n 5 6))) v0)");
        Kit.values("5 f", "(; (e (: 0 (i (| n 3) 5 6))) v0)");
        Kit.values("9 f", "(; (: 1 0) (; (e (; (& (t 1 3) n) 5) (: 1 9)) v1))");
        Kit.values("2 f", "(; (: 0 0) (; (e (; (& (: 0 (t 1 3)) (i (= v0 2) 1 n)) 5)) v0))");
        // a scanning that is failed out of is left
        Kit.values("4 4 f", "(s 'abc' (; (T 4) (; (e (; (s 'xy' (& (T 2) n)) (: 0 p))) (| v0 p))))");
        // the 'R' of a procedure has no value then; what is behind the loop is not begun
        Kit.values("7 f", "(| (call 0 1) 7)", "0=(; (e (R n)) (R 5))");
        Kit.values("3 7 f", "(| (call 0 1) 7)", "0=(; (e (R (| n 3))) (R 5))");
        // in the a of a 'w' it goes on with that loop
        Kit.values("3 f", "(; (: 0 0) (; (w (; (: 0 (+ v0 1)) (& (i (< v0 3) (; n 8) 8) (b 1)))) v0))");
    }

    private static void nested() {
        Kit.values("9 f", "(e (t 1 3) (e (t 1 3) (b (b 9))))");
        Kit.values("5 f", "(e (t 1 3) (b (e (t 1 3) (b 5))))");
        Kit.values("6 f", "(; (: 0 0) (; (e (t 1 3)"
                + " (e (t 1 9) (; (: 0 (+ v0 1)) (i (= v0 6) (b (b 1)) (i (= v0 3) b))))) v0))");
        Kit.values("4 f", "(; (: 0 0) (; (e (t 1 2) (e (t 1 2) (; (: 0 (+ v0 1)) n))) v0))");
        Kit.values("2 f", "(; (: 0 0) (; (e (t 1 2) (e (t 1 2) (; (: 0 (+ v0 1)) (b n)))) v0))");
        Kit.values("7 f", "(e (t 1 3) (+ 1 (b 7)))");
        Kit.values("8 9 f", "(+ 1 (e (t 1 3) (b (t 7 8))))");
    }
}
