/** Promises 12 and 24: numbers that are passed over on the way to a value are no steps, however many they are. */
public final class PassedTest {
    private static final String ALL = "(t -2147483648 2147483647)";
    private static final String MANY = "(t 1 2147483647)";

    public static void main(String[] args) {
        oneByOne();
        comparisons();
        passedOn();
        sums();
        countings();
        scanning();
        traces();
        procedures();
        notPassed();
        steps();
        Kit.end();
    }

    private static void passed(String want, String notation, String... bodies) {
        for (int i = 0; i < bodies.length; i++) {
            bodies[i] = numbers(bodies[i]);
        }
        Kit.values(want, numbers(notation), bodies);
    }

    private static String numbers(String notation) {
        return notation.replace("ALL", ALL).replace("MANY", MANY);
    }

    /** Kinds whose numbers are gone through one by one. */
    private static void oneByOne() {
        passed("5000000 f", "(= 5000000 (* 1 (t 1 5000000)))");
        passed("f", "(A (t 1 5000000))");
        passed("3 f", "(s 'ab7654321' (F (t 7654321 7700000)))");
        passed("7654321 f", "(= 7654321 (. 76 (t 50000 54400)))");
    }

    private static void comparisons() {
        passed("20000000 f", "(= 20000000 (t 1 20000000))");
        passed("f", "(= 20000001 (t 1 20000000))");
        passed("2147483647 f", "(= 2147483647 ALL)");
        passed("-2147483648 f", "(= -2147483648 ALL)");
        passed("0 f", "(= '-0' ALL)");
        passed("f", "(= 'a' ALL)");
        passed("f", "(= 0 MANY)");
        passed("2147483646 2147483647 f", "(< 2147483645 ALL)");
        passed("f", "(< 2147483647 ALL)");
        passed("f", "(< 'a' ALL)");
        passed("'77' f", "(~ '77' ALL)");
        passed("'-77' f", "(~ -77 ALL)");
        passed("'-2147483648' f", "(~ '-2147483648' ALL)");
        passed("'2147483647' f", "(~ '2147483647' ALL)");
        passed("f", "(~ '077' ALL)");
        passed("f", "(~ '2147483648' ALL)");
        passed("f", "(~ '99999999999' ALL)");
        passed("f", "(~ '' ALL)");
        passed("f", "(~ '-' ALL)");
        passed("3 4 f", "(= (| 3 4) MANY)");
        passed("5 f", "(= 5 (< 4 (= 5 MANY)))");
        passed("f", "(= 5 (< 5 MANY))");
        passed("f", "(< 5 (= 5 MANY))");
        passed("7 7 8 f", "(l (t 7 9) (t -2147483648 2))");
    }

    private static void passedOn() {
        passed("3 3 f", "(= 3 (| MANY 3))");
        passed("3 3 f", "(= 3 (| 3 MANY))");
        passed("3 3 f", "(= 3 (& (| 1 2) MANY))");
        passed("3 f", "(= 3 (; 1 MANY))");
        passed("3 f", "(= 3 (i 1 MANY 4))");
        passed("3 f", "(= 3 (i (= 1 2) 4 MANY))");
        passed("3 f", "(= 3 (s 'abc' MANY))");
        passed("3 f", "(= 3 (e 1 (b MANY)))");
        passed("3 f", "(= 3 (w 1 (b MANY)))");
        passed("3 f", "(= 3 (u 0 MANY))");
        passed("3 f", "(= 3 (: 0 MANY))");
        passed("3 3 3", "(= 3 (r MANY))");
        passed("3 3 3", "(r (= 3 MANY))");
        passed("f", "(e MANY)");
        passed("0 f", "(! (e ALL))");
    }

    private static void sums() {
        passed("7 f", "(= 7 (+ 3 MANY))");
        passed("7 f", "(= 7 (- 3 ALL))");
        passed("f", "(= 7 (- 3 MANY))");
        passed("7 f", "(= 7 (+ 2147483647 ALL))");
        passed("7 f", "(= 7 (+ -2147483648 ALL))");
        passed("7 f", "(= 7 (- 2147483647 ALL))");
        passed("7 f", "(= 7 (- -2147483648 ALL))");
        passed("7 f", "(= 7 (+ 2147483647 (- -9 (+ 2147483647 ALL))))");
        passed("2147483647 f", "(< 2147483646 (+ 5 ALL))");
        passed("f", "(= 7 (+ 'a' ALL))");
    }

    private static void countings() {
        passed("f", "(= 0 (t 1 (t 1 (t 1 MANY))))");
        passed("3 3 f", "(= 3 (t 2 (t 1 4)))");
        passed("4 4 5 f", "(< 3 (t 2 (t 1 5)))");
        passed("f", "(= 1 (t 2 (t 1 (t 1 5))))");
        passed("2147483647 f", "(= 2147483647 (t 5 MANY))");
        passed("2147483646 2147483646 2147483647 f", "(< 2147483645 (t 5 MANY))");
        passed("f", "(t 5 (t 1 4))");
        passed("2147483647 f", "(t 2147483647 ALL)");
        passed("f", "(t 'a' ALL)");
    }

    private static void scanning() {
        passed("'' 'a' 'ab' 'abc' '' 'a' 'ab' 'abc' f", "(s 'abc' (T ALL))");
        passed("'a' '' 'b' 'bc' f", "(s 'abc' (; (T 2) (m ALL)))");
        passed("2 2 f", "(s 'abc' (; (T 2) (P ALL)))");
        passed("'b' 'bc' 'bcd' f", "([ 'abcd' 2 (t 3 2147483647))");
        passed("'abc' 'bc' 'c' '' f", "([ 'abcd' 4 (t -2147483648 -1))");
        String text = "abcdefghijklmnopqrstuvwxyzabcdefghijklmnopqrstuvwxyz12345678";
        passed("1 1 f", "(s '" + text + "' (P ALL))");
        passed("61 61 f", "(s '" + text + "' (; (T 61) (P ALL)))");
        passed("'" + text + "' f", "(s '" + text + "' (m (< 59 MANY)))");
        passed("'" + text + "'", "(s '" + text + "' (; (T 61) (m ALL)))");
        passed("'" + text + "'", "(s '" + text + "' (; (T 61) (T ALL)))");
        passed("'" + text + "'", "([ '" + text + "' 61 ALL)");
    }

    /** What the last number leaves behind is there, even if it is of no use further on. */
    private static void traces() {
        passed("2147483647 f", "(; (e (: 0 ALL)) v0)");
        passed("2147483647 f", "(; (= 0 (: 0 MANY)) v0)");
        passed("5 f", "(; (e (: 0 (= 5 MANY))) v0)");
        passed("70000 f", "(; (e (: 0 (< 5 (t 1 70000)))) v0)");
        passed("4 f", "(; (e (: 0 (- 5 (t -9 1)))) v0)");
        passed("8 f", "(; (e (: 0 (t 2 (t 1 8)))) v0)");
        passed("!x", "(; (e (: 0 (t 9 (t 1 8)))) v0)");
        passed("9 f", "(; (: 0 9) (; (e (u 0 MANY)) v0))");
        passed("9 f", "(; (: 0 9) (; (e (: 1 (u 0 MANY))) v0))");
        passed("2147483647 f", "(; (e (u 0 (: 1 MANY))) v1)");
        passed("9 3 2147483647 f", "(; (: 0 9) (| v0 (| (= 3 (: 0 MANY)) v0)))");
        passed("!l", "(= 0 (r MANY))");
        passed("!l", "(e (r (: 0 (| MANY MANY))))");
        passed("f", "(r (= 0 MANY))");
        passed("f", "(r (t 1 (t -9 0)))");
        passed("5 f", "(= 5 (: 0 (: 1 (l (r (= 5 MANY)) 1))))");
    }

    private static void procedures() {
        passed("3 f", "(= 3 (call 0 1))", "0=(S MANY)");
        passed("2147483647 8 f", "(; (e (: 0 (call 0 1))) (| v0 8))", "0=(S MANY)");
        passed("3 3 f", "(= 3 (call 0 1))", "0=(| (S MANY) (S ALL))");
        passed("f", "(= 3 (call 0 1))", "0=(R MANY)");
        passed("3 f", "(= 3 (call 0 1))", "0=(s 'ab' (; (T 2) (S (+ p (t 0 2147483647)))))");
        // those of other expressions in the procedure are all of use
        passed("5 f", "(= 5 (call 0 1))", "0=(; (: 2 (+ 1 MANY)) (S (+ v2 3)))");
        passed("5 5 f", "(= 5 (call 0 1))", "0=(& (: 2 (+ 1 (t 1 2))) (S (t 1 (+ 3 v2))))");
        passed("f", "(= 3 (@ (c MANY)))");
        passed("3 4", "(; (: 0 (c MANY)) (< 2 (r (@ v0))))");
        passed("3 f", "(@ (c (= 3 MANY)))");
    }

    /** Numbers that are of no use are given, as each of them matters. */
    private static void notPassed() {
        passed("-1 !z", "(/ 1 (t -1 2147483647))");
        passed("0 0 !z", "(= 0 (/ 1 (t -3 2147483647)))");
        passed("!o", "(~ 'a' (. '123456789012345678901234567890123456789012345678901234567890' MANY))");
        passed("3 f", "(= 3 (l MANY 5))");
        passed("f", "(= 6 (l MANY 5))");
        passed("2 f", "(; (: 0 0) (; (e (l MANY 2) (: 0 (+ v0 1))) v0))");
        passed("f", "(! (= 3 MANY))");
        passed("1 2 3", "(+ MANY 0)");
        passed("!l", "(= 0 (+ MANY 0))");
        passed("!l", "(e (& MANY 1))");
        passed("!l", "(e MANY 1)");
        passed("!t", "(@ MANY)");
    }

    private static void steps() {
        DoorScan x = new DoorScan();
        x.begin(Kit.put(x, "(= 20000000 (t 1 20000000))"));
        Kit.due("a value", Kit.row(x, 1), "20000000");
        Kit.due("its steps", x.steps(), 5);
        Kit.due("no more", Kit.row(x, 1), "f");
        Kit.due("all steps", x.steps(), 5);
        DoorScan y = new DoorScan();
        y.begin(Kit.put(y, numbers("(; (e (: 0 ALL)) 7)")));
        y.next();
        Kit.due("the last one was assigned", y.variableNow(0), 2147483647);
        Kit.due("all steps", y.steps(), 7);
        DoorScan z = new DoorScan();
        z.begin(Kit.put(z, numbers("(e (r MANY))")));
        z.next();
        Kit.due("too many rounds", z.error(), 'l');
        Kit.due("their steps", z.steps(), 1000);
    }
}
