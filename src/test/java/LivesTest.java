/** Terms: lives. */
public final class LivesTest {
    public static void main(String[] args) {
        Kit.values("c f", "(c 1)");
        Kit.values("1 f", "(@ (c (t 1 3)))");
        Kit.values("1 2 3 f", "(; (: 0 (c (t 1 3))) (r (@ v0)))");
        Kit.values("1 10 2 3 f", "(; (: 0 (c (t 1 3))) (| (& (@ v0) (| 1 10)) (r (@ v0))))");
        Kit.values("f", "(@ (c (< 2 1)))");
        Kit.values("1 5 2 6 f", "(; (: 0 (c (t 1 2))) (; (: 1 (c (t 5 6))) (r (@ (| v0 v1)))))");
        Kit.values("1 1 2 1 f", "(; (: 0 (c (t 1 2))) (| (@ v0) (| (@ (^ v0)) (| (@ v0) (| (@ v0) (@ (^ v0)))))))");
        Kit.values("c f", "(^ (c 1))");
        Kit.values("c c f", "(^ (| (c 1) (c 2)))");
        Kit.values("2 f", "(; (: 0 (c 1)) (; (@ v0) (; (@ v0) (i (@ v0) 1 2))))");
        // a life that has no more is passed over, for each value of a
        Kit.values("0 2 3 f", "(; (: 0 (c 1)) (; (@ v0) (| (! (@ v0)) (@ (| v0 (| (c 2) (| v0 (c 3))))))))");
        Kit.values("7 7 f", "(; (: 0 (c (< 2 1))) (@ (& (| 1 2) (| v0 (| v0 (c 7))))))");
        copies();
        own();
        errors();
        Kit.end();
    }

    /** A life has copies of all variables, the subject and the place, as they are when it is made. */
    private static void copies() {
        Kit.values("5 f", "(; (: 1 5) (; (: 0 (c v1)) (; (: 1 6) (@ v0))))");
        Kit.values("6 9 6 f", "(; (: 1 6) (; (: 0 (c (: 1 (| 9 v1)))) (| v1 (| (@ v0) v1))))");
        Kit.values("5 7 5 f", "(; (: 1 5) (; (: 0 (c (| v1 (; (: 1 7) v1)))) (| (@ v0) (| (@ v0) (@ (^ v0))))))");
        Kit.values("'ab' 2 f", "(; (s 'ab' (; (m 1) (: 0 (c (| q p))))) (r (@ v0)))");
        Kit.values("'b' 1 'b' f", "(; (s 'ab' (; (m 1) (: 0 (c (T 0))))) (| (@ v0) (| p (@ (^ v0)))))");
        Kit.values("'xy' 2 f", "(; (: 0 (c (; (s 'ab' (m 1)) 3))) (s 'xy' (; (m 1) (; (@ v0) (| q p)))))");
        Kit.values("1 2 3 f", "(; (: 0 (c (s 'abc' (| p (| (; (m 1) p) (; (m 1) p)))))) (r (@ v0)))");
        Kit.values("4 f", "(; (: 0 (call 0 4)) (@ v0))", "0=(R (c v0))");
        Kit.values("!x", "(; (: 2 4) (; (: 0 (call 0 4)) (@ v0)))", "0=(R (c v2))");
    }

    /** What a life does is not undone as '@' is gone back into, and leaves that of others alone. */
    private static void own() {
        Kit.values("1 2 f", "(; (: 0 (c (t 1 9))) (| (l (@ v0) 1) (@ v0)))");
        Kit.values("2 f", "(; (: 0 (c (t 1 9))) (| (& (@ v0) (< 2 1)) (@ v0)))");
        Kit.values("3 f", "(; (: 0 (c (t 1 9))) (; (e (l (r (@ v0)) 2)) (@ v0)))");
        Kit.values("1 f", "(; (: 0 (c (c 1))) (@ (@ v0)))");
        Kit.values("2 3 f", "(; (: 0 (c (t 1 3))) (; (: 1 (c (r (@ v0)))) (; (@ v1) (| (@ v1) (@ v0)))))");
        Kit.values("1 2 f", "(; (: 0 (c (call 0 2))) (r (@ v0)))", "0=(S (t 1 v0))");
        Kit.values("4 5 f", "(; (: 0 (c (e (t 1 3) (b (t 4 5))))) (r (@ v0)))");
    }

    private static void errors() {
        Kit.values("!t", "(@ 1)");
        Kit.values("!t", "(^ 'a')");
        Kit.values("f", "(@ (< 2 1))");
        Kit.values("!b", "(e (t 1 3) (@ (c b)))");
        Kit.values("!b", "(e (t 1 3) (@ (c n)))");
        Kit.values("!b", "(call 0 1)", "0=(@ (c (S 1)))");
        Kit.values("!b", "(call 0 1)", "0=(@ (c (R 1)))");
        Kit.values("!b", "(call 0 1)", "0=(@ (c f))");
        // a life is neither a number nor a text
        for (String kind : new String[] {"+", "-", "*", "/", ".", "<", "=", "~", "t"}) {
            Kit.values("f", "(" + kind + " (c 1) 1)");
            Kit.values("f", "(" + kind + " 1 (c 1))");
        }
        Kit.values("f", "(l 1 (c 1))");
        Kit.values("c f", "(l (c 1) 1)");
        for (String kind : new String[] {"T", "m", "P", "A", "M", "U", "F", "H"}) {
            Kit.values("f", "(" + kind + " (c 1))");
        }
        Kit.values("f", "(s (c 1) 1)");
        Kit.values("'ab' 2 '7' 1 f", "(s (| (c 1) (| 'ab' (| (c 2) 7))) (| q (i (~ q 'ab') 2 1)))");
        Kit.values("f", "([ (c 1) 1 1)");
    }
}
