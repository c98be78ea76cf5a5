/** Terms: scanning. */
public final class ScanningTest {
    public static void main(String[] args) {
        subjects();
        moves();
        matches();
        leaving();
        goingOnIn();
        // without a scanning of its own a procedure has the place as it is when it is gone back into
        Kit.values("1 3 f", "(s 'abc' (& (: 0 (call 0 1)) (; (T 3) v0)))", "0=(& 1 (S (| p p)))");
        Kit.values("1 1 f", "(s 'abc' (& (: 0 (call 0 1)) (; (T 3) v0)))", "0=(s 'de' (& 1 (S (| p p))))");
        Kit.end();
    }

    private static void subjects() {
        Kit.values("'' f", "q");
        Kit.values("1 f", "p");
        Kit.values("'ab' f", "(s 'ab' q)");
        Kit.values("1 f", "(s 'ab' p)");
        Kit.values("'12' f", "(s 12 q)");
        Kit.values("'-7' f", "(s -7 q)");
        Kit.values("'a' 1 'b' 1 f", "(s (| 'a' 'b') (| q p))");
        Kit.values("'b' f", "(s 'a' (s 'b' q))");
        Kit.values("'b' 'a' f", "(s 'a' (| (s 'b' q) q))");
        Kit.values("f", "(s (< 2 1) q)");
    }

    private static void moves() {
        Kit.values("'ab' f", "(s 'abcd' (T 3))");
        Kit.values("'' f", "(s 'abcd' (T 1))");
        Kit.values("'abcd' f", "(s 'abcd' (T 5))");
        Kit.values("'abcd' f", "(s 'abcd' (T 0))");
        Kit.values("'abc' f", "(s 'abcd' (T -1))");
        Kit.values("'' f", "(s 'abcd' (T -4))");
        Kit.values("f", "(s 'abcd' (T -5))");
        Kit.values("f", "(s 'abcd' (T 6))");
        Kit.values("f", "(s 'abcd' (T 2147483647))");
        Kit.values("f", "(s 'abcd' (T -2147483648))");
        Kit.values("f", "(s 'abcd' (T 'x'))");
        Kit.values("'ab' f", "(s 'abcd' (T '3'))");
        Kit.values("'' f", "(T 1)");
        Kit.values("'' f", "(T 0)");
        Kit.values("f", "(T 2)");
        Kit.values("'ab' f", "(s 'abcd' (m 2))");
        Kit.values("'' f", "(s 'abcd' (m 0))");
        Kit.values("f", "(s 'abcd' (m 5))");
        Kit.values("f", "(s 'abcd' (m -1))");
        Kit.values("f", "(s 'abcd' (m 2147483647))");
        Kit.values("f", "(s 'abcd' (m -2147483648))");
        Kit.values("'cd' f", "(s 'abcd' (; (T 3) (m 2)))");
        Kit.values("'bc' f", "(s 'abcd' (; (T 4) (T 2)))");
        Kit.values("'c' f", "(s 'abcd' (; (T 4) (m -1)))");
        Kit.values("3 1 f", "(s 'abcd' (| (& (m 2) p) p))");
        Kit.values("3 3 f", "(s 'abcd' (| (; (m 2) p) p))");
        Kit.values("2 4 3 1 f", "(s 'abcd' (| (& (T (| 2 4)) p) (| (& (m 2) p) p)))");
        Kit.values("'a' 'ab' 'abc' f", "(s 'abcd' (T (t 2 4)))");
        Kit.values("4 2 f", "(s 'abcdef' (& (m 1) (| (& (m 2) p) p)))");
        Kit.values("2 f", "(s 'ab' (& (m 1) (P 2)))");
        Kit.values("2 f", "(s 'ab' (& (m 1) (P -1)))");
        Kit.values("1 f", "(P 0)");
        Kit.values("f", "(s 'ab' (P 2))");
        Kit.values("f", "(s 'ab' (P 4))");
        Kit.values("1 1 f", "(s 'ab' (P (| 1 (| 3 -2))))");
    }

    private static void matches() {
        Kit.values("2 f", "(s 'abc' (A 'xa'))");
        Kit.values("f", "(s 'abc' (A 'b'))");
        Kit.values("f", "(s 'abc' (A ''))");
        Kit.values("f", "(A 'a')");
        Kit.values("f", "(s 'abc' (& (T 0) (A 'abc')))");
        Kit.values("2 f", "(s 123 (A 41))");
        Kit.values("4 f", "(s 'abac' (M 'ab'))");
        Kit.values("5 f", "(s 'abab' (M 'ab'))");
        Kit.values("f", "(s 'abac' (M 'c'))");
        Kit.values("f", "(s 'abac' (M ''))");
        Kit.values("4 2 f", "(s 'abac' (M (| 'ab' (| 'x' 'a'))))");
        Kit.values("1 3 f", "(s 'abac' (U 'a'))");
        Kit.values("1 2 3 4 f", "(s 'abac' (U 'abc'))");
        Kit.values("3 f", "(s 'abac' (& (m 1) (U 'a')))");
        Kit.values("f", "(s 'abac' (U ''))");
        Kit.values("2 4 1 3 f", "(s 'abac' (U (| 'bc' 'a')))");
        Kit.values("1 3 f", "(s 'abab' (F 'ab'))");
        Kit.values("1 2 3 f", "(s 'aaaa' (F 'aa'))");
        Kit.values("1 2 3 f", "(s 'ab' (F ''))");
        Kit.values("2 3 f", "(s 'ab' (& (m 1) (F '')))");
        Kit.values("1 f", "(F '')");
        Kit.values("f", "(s 'ab' (F 'abc'))");
        Kit.values("1 f", "(s 'ab' (F 'ab'))");
        Kit.values("3 f", "(s 'abc' (H 'ab'))");
        Kit.values("4 f", "(s 'abc' (H 'abc'))");
        Kit.values("f", "(s 'abc' (H 'abcd'))");
        Kit.values("f", "(s 'abc' (H 'b'))");
        Kit.values("3 f", "(s 'abc' (& (m 1) (H 'b')))");
        Kit.values("1 f", "(s 'abc' (H ''))");
        Kit.values("1 3 f", "(s 'abc' (& (F 'a') (| p (H 'ab'))))");
        Kit.values("1 1 3 1 f", "(s 'aba' (| p (| (U 'a') p)))");
    }

    /** What leaves a scanning has the subject and the place as they were outside. */
    private static void leaving() {
        Kit.values("'' f", "(& (s 'ab' (m 1)) q)");
        Kit.values("1 1 f", "(& (s 'ab' (m (| 1 2))) p)");
        Kit.values("'xy' f", "(s 'xy' (; (s 'ab' (< 2 1)) q))");
        Kit.values("2 f", "(s 'xy' (; (m 1) (; (s 'ab' (< 2 1)) p)))");
        Kit.values("2 f", "(s 'xy' (& (m 1) (& (s 'ab' (m 2)) p)))");
        Kit.values("'xy' f", "(s 'xy' (e 1 (s 'ab' (b q))))");
        Kit.values("2 f", "(s 'xy' (& (m 1) (e 1 (s 'ab' (s 'cdef' (; (m 2) (b p)))))))");
        Kit.values("'xy' f", "(s 'xy' (; (e 1 (s 'ab' n)) q))");
        Kit.values("2 f", "(s 'xy' (& (m 1) (; (e (; (s 'ab' (; (m 1) n)) 1)) p)))");
        Kit.values("1 f", "(s 'xy' (; (: 0 0) (; (w (= v0 0) (s 'ab' (; (m 1) (; (: 0 1) n)))) p)))");
        Kit.values("'xy' 2 f", "(s 'xy' (& (m 1) (& (call 0 1) (| q p))))", "0=(s 'ab' (; (m 1) (R 5)))");
        Kit.values("'xy' 2 f", "(s 'xy' (& (m 1) (& (call 0 1) (| q p))))", "0=(s 'ab' (s 'c' (& (m 1) (S 5))))");
        Kit.values("'xy' 2 f", "(s 'xy' (& (m 1) (| (call 0 1) (| q p))))", "0=(s 'ab' (s 'c' (& (m 1) f)))");
        Kit.values("'xy' 2 f", "(s 'xy' (& (m 1) (| (call 0 1) (| q p))))", "0=(s 'ab' (s 'c' (& (m 1) R)))");
        Kit.values("'xy' 2 f", "(s 'xy' (& (m 1) (| (call 0 1) (| q p))))", "0=(s 'ab' (s 'c' (& (m 1) 7)))");
        // a place that was moved outside in between is as it was when the scanning began
        Kit.values("'ab' 2 1 f", "(s 'abc' (| (& (s 'x' 'ab') (| 'ab' (; (m 1) p))) p))");
    }

    /** As a scanning is gone back into, those of inside are there again as they were. */
    private static void goingOnIn() {
        Kit.values("'a' 'ab' f", "(s 'abc' (m (t 1 2)))");
        Kit.values("1 2 3 f", "(s 'ab' (; (T 1) (| p (| (; (m 1) p) (; (m 1) p)))))");
        Kit.values("1 'xy' 2 'xy' f", "(& (: 0 (s 'ab' (| p (& (m 1) p)))) (| v0 'xy'))");
        Kit.values("2 1 2 f", "(& (: 0 (s 'xyz' (; (m 1) (| p (| 1 p))))) v0)");
        Kit.values("'ab' 'ab' f", "(& (: 0 (s 'ab' (& (t 1 2) q))) (; (T 1) v0))");
        Kit.values("2 3 f", "(s 'xyz' (& (: 0 (call 0 1)) (; (m 1) v0)))",
                "0=(s 'abc' (; (m 1) (; (S p) (; (m 1) (S p)))))");
        Kit.values("'b' 'cd' f", "(s 'x' (call 0 1))", "0=(s 'abcd' (; (m 1) (; (S (m 1)) (; (m 1) (S (m 2))))))");
    }
}
