/** Terms: values and going back, and the kinds with values; the second way is compared with each row. */
public final class KindsTest {
    public static void main(String[] args) {
        rows();
        numbersAndTexts();
        bounded();
        variables();
        exchanges();
        Kit.values("1 2 9 f", "(; (: 0 0) (| (r (: 0 (& (< v0 2) (+ v0 1)))) 9))");
        Kit.end();
    }

    private static void rows() {
        Kit.values("1 2 f", "(| 1 2)");
        Kit.values("1 2 3 4 f", "(| (t 1 2) (t 3 4))");
        Kit.values("5 6 5 6 f", "(& (t 1 2) (t 5 6))");
        Kit.values("f", "(& (< 2 1) 5)");
        Kit.values("7 8 f", "(; (t 1 3) (t 7 8))");
        Kit.values("7 f", "(; (< 2 1) 7)");
        Kit.values("f", "(t 2 1)");
        Kit.values("3 f", "(t 3 3)");
        Kit.values("-1 0 1 f", "(t -1 1)");
        Kit.values("1 2 2 f", "(t (t 1 2) 2)");
        Kit.values("2147483646 2147483647 f", "(t 2147483646 2147483647)");
        Kit.values("-2147483648 f", "(t -2147483648 -2147483648)");
        Kit.values("11 21 12 22 f", "(+ (t 1 2) (| 10 20))");
        Kit.values("1 2 f", "(l (t 1 9) 2)");
        Kit.values("1 1 2 f", "(l (t 1 9) (| 1 2))");
        Kit.values("f", "(l (t 1 9) 0)");
        Kit.values("1 f", "(l (t 1 9) (| -3 1))");
        Kit.values("f", "(l v0 0)");
        Kit.values("1 2 1 2 1", "(r (t 1 2))");
        Kit.values("f", "(r (< 2 1))");
        Kit.values("2 1 0 f", "(; (: 0 3) (r (& (< 0 v0) (: 0 (- v0 1)))))");
        Kit.values("0 f", "(! (< 2 1))");
        Kit.values("f", "(! 5)");
        Kit.values("f", "(! (t 1 5))");
        Kit.values("1 2 f", "(i 9 (t 1 2) 3)");
        Kit.values("3 4 f", "(i (< 2 1) (t 1 2) (t 3 4))");
        Kit.values("f", "(i (< 2 1) 1)");
        Kit.values("8 f", "(i (t 1 3) 8)");
    }

    private static void numbersAndTexts() {
        Kit.values("5 f", "(+ 2 3)");
        Kit.values("-2147483648 f", "(+ 2147483647 1)");
        Kit.values("2147483647 f", "(- -2147483648 1)");
        Kit.values("-2 f", "(* 2147483647 2)");
        Kit.values("-2147483648 f", "(/ -2147483648 -1)");
        Kit.values("-2 f", "(/ -7 3)");
        Kit.values("2 f", "(/ -7 -3)");
        Kit.values("!z", "(/ 1 0)");
        Kit.values("3 !z", "(/ 3 (| 1 0))");
        Kit.values("f", "(/ 'a' 0)");
        Kit.values("5 f", "(+ '2' '003')");
        Kit.values("-5 f", "(+ '-6' 1)");
        Kit.values("0 f", "(+ '-0' 0)");
        Kit.values("999999999 f", "(+ '999999999' 0)");
        Kit.values("-999999999 f", "(+ '-999999999' 0)");
        Kit.values("f", "(+ '1000000000' 0)");
        for (String text : new String[] {"", "-", "--1", "1-", "+1", " 1", "1 ", "a", "1a", "0x1", "-1234567890"}) {
            Kit.values("f", "(+ '" + text + "' 0)");
            Kit.values("f", "(+ 0 '" + text + "')");
        }
        Kit.values("1 f", "(+ (| 'a' 1) (| 'b' 0))");
        Kit.values("'ab' f", "(. 'a' 'b')");
        Kit.values("'1-2' f", "(. 1 -2)");
        Kit.values("'-2147483648' f", "(. -2147483648 '')");
        Kit.values("'' f", "(. '' '')");
        String thirty = "'123456789012345678901234567890'";
        Kit.values("'" + "123456789012345678901234567890".repeat(2) + "' f", "(. " + thirty + " " + thirty + ")");
        Kit.values("!o", "(. (. " + thirty + " " + thirty + ") 1)");
        Kit.values("2 f", "(< 1 2)");
        Kit.values("f", "(< 2 2)");
        Kit.values("2 f", "(= 2 '02')");
        Kit.values("f", "(= 2 3)");
        Kit.values("3 4 f", "(< 2 (t 1 4))");
        Kit.values("f", "(< 'a' 'b')");
        Kit.values("'2' f", "(~ 2 '2')");
        Kit.values("'2' f", "(~ '2' 2)");
        Kit.values("f", "(~ '02' 2)");
        Kit.values("'a' 'a' f", "(~ (| 'a' 'b') (| 'a' (| 'c' 'a')))");
        Kit.values("f", "(~ 'ab' 'a')");
        Kit.values("'bc' f", "([ 'abcd' 2 4)");
        Kit.values("'bc' f", "([ 'abcd' 4 2)");
        Kit.values("'cd' f", "([ 'abcd' -2 0)");
        Kit.values("'abcd' f", "([ 'abcd' 1 5)");
        Kit.values("'' f", "([ 'abcd' 5 0)");
        Kit.values("f", "([ 'abcd' 1 6)");
        Kit.values("f", "([ 'abcd' -5 1)");
        Kit.values("'a' 'ab' '' 'b' f", "([ 'abcd' (| 1 2) (| 2 3))");
        Kit.values("'23' f", "([ 1234 2 4)");
    }

    private static void bounded() {
        Kit.values("1 f", "(; (& (u 0 (t 1 3)) (u 1 5)) v0)");
        Kit.values("1 f", "(; (! (: 0 (t 1 3))) v0)");
        Kit.values("5 2 f", "(; (: 0 5) (| (i (& (u 0 (t 1 3)) (< 1 v0)) 5) v0))");
        Kit.values("!x", "(; (& (u 0 (t 1 3)) (< 2 1)) v0)");
        Kit.values("9 f", "(; (: 0 9) (; (& (u 0 (t 1 3)) (< 2 1)) v0))");
        Kit.values("3 f", "(; (& (: 0 (t 1 3)) (< 2 1)) v0)");
        Kit.values("5 7 f", "(; (: 0 5) (| v0 (| (& (u 0 6) (< 2 1)) (; (: 0 7) v0))))");
        Kit.values("1 1 f", "(; (: 0 0) (| (l (u 0 1) 1) v0))");
        Kit.values("1 0 f", "(; (: 0 0) (| (l (u 0 1) 2) v0))");
    }

    private static void variables() {
        Kit.values("!x", "v0");
        Kit.values("1 !x", "(| 1 v3)");
        Kit.values("'a' f", "(; (: 2 'a') v2)");
        Kit.values("1 2 3 3 f", "(| (: 0 (t 1 3)) v0)");
        Kit.values("1 2 3 !x", "(| (u 0 (t 1 3)) v0)");
        Kit.values("4 1 4 f", "(; (: 0 4) (| v0 (| (u 0 1) v0)))");
        Kit.values("2 3 f", "(& (u 0 (t 1 3)) (< 1 v0))");
    }

    private static void exchanges() {
        Kit.values("2 f", "(; (: 0 1) (; (: 1 2) (x 0 1)))");
        Kit.values("2 2 1 f", "(; (: 0 1) (; (: 1 2) (| (x 0 1) (| v0 v1))))");
        Kit.values("2 1 2 f", "(; (: 0 1) (; (: 1 2) (| (y 0 1) (| v0 v1))))");
        Kit.values("2 2 1 f", "(; (: 0 1) (; (: 1 2) (; (y 0 1) (| v0 (| v0 v1)))))");
        Kit.values("1 1 f", "(; (: 0 1) (| (y 0 0) v0))");
        Kit.values("!x", "(x 0 1)");
        Kit.values("!x", "(; (: 0 1) (y 0 1))");
        Kit.values("!x", "(; (: 1 1) (y 0 1))");
        Kit.values("5 1 2 f", "(; (: 0 1) (; (: 1 2) (| (& (y 0 1) (: 0 5)) (| v0 v1))))");
    }
}
