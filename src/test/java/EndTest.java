/**
 * Every call ends: the numbers of a 't' in the b of a 't', and the places of a 'U' in the a of a 'U', are rows of rows,
 * trillions of numbers in all, but those that came to nothing come to nothing again at the same place as long as no
 * expression is begun and no value is given.
 */
public final class EndTest {
    private static final long MOST_MILLIS = 120_000;

    public static void main(String[] args) {
        endInTime();
        rowsOfRows();
        rowsOfPlaces();
        stoppedOnTheWay();
        sameNumbersAgain();
        countedNumbers();
        whatIsLeftBehind();
        changedBetween();
        lives();
        openTwice();
        withinProcedures();
        Kit.end();
    }

    /** A call that does not end fails the test. */
    private static void endInTime() {
        Thread watch = new Thread(() -> {
            try {
                Thread.sleep(MOST_MILLIS);
            } catch (InterruptedException e) {
                return;
            }
            System.out.println("a call does not end");
            System.exit(1);
        });
        watch.setDaemon(true);
        watch.start();
    }

    private static void rowsOfRows() {
        String rows = "(t 1 (t 1 1000000))";
        Kit.values("f", "(M " + rows + ")");
        Kit.values("f", "(= 7 (* 3 " + rows + "))");
        Kit.values("f", "(= 7 (* 3 (t 1 (t 1 " + rows + "))))");
        Kit.values("f", "(= 7 (* 3 (u 0 (t 1 (t 1 " + rows + ")))))");
        Kit.values("f", "(r (A (| (t 5 " + rows + ") " + rows + ")))");
        Kit.values("f", "(s 'xyz' (U (s 'abc' (& (| 1 2) " + rows + "))))");
        Kit.values("f", "(H (call 0 1))", "0=(s 'ab' (S " + rows + "))");
        Kit.values("f", "(= 7 (* 3 (t 1 (* 1 (t 1 (* 1 (t 1 1000000)))))))");
        Kit.values("f", "(= 7 (* 3 (t 1 (- 0 (t -1000000 -1)))))");
        Kit.values("f", "(= 7 (* 3 (t 1 (l " + rows + " 1000000))))");
        Kit.values("f", "(= 7 (* 3 (e 1 (b " + rows + "))))");
        Kit.values("0 f", "(! (M " + rows + "))");
        Kit.values("f", "(; (: 0 1) (M " + rows + "))");
        Kit.values("f", "(s '" + "1".repeat(60) + "' (; (T 61) (M " + rows + ")))");
    }

    /** Each place of a 'U' or 'F', and each that a 't' has led to, is the beginning of another row. */
    private static void rowsOfPlaces() {
        String digits = "'123456789012345678901234567890123456789012345678901234567890'";
        String ones = "'" + "1".repeat(60) + "'";
        Kit.values("f", "(s " + digits + " (= 7 (* 3 " + around("(U _)", 30, "(F '')") + ")))");
        Kit.values("f", "(s " + digits + " (= 7 (* 3 " + around("(F (U _))", 15, "(F '')") + ")))");
        Kit.values("f", "(s " + digits + " (= 7 (* 3 " + around("(U (T _))", 10, "(U (t 1 60))") + ")))");
        Kit.values("f", "(s " + ones + " (= 7 (* 3 (P " + around("(t 1 (T _))", 12, "(t 1 60)") + "))))");
        Kit.values("f", "(s " + ones + " (= 7 (* 3 (P " + around("(t 1 (m _))", 12, "(t 1 60)") + "))))");
        Kit.values("f", "(call 0 1)", "0=(s " + digits + " (= 7 (* 3 " + around("(U _)", 30, "(F '')") + ")))");
        Kit.values("f", "(@ (c (s " + digits + " (= 7 (* 3 " + around("(U _)", 30, "(F '')") + ")))))");
        Kit.values("9 9 9 9", "(s " + digits + " (= 9 (* 3 " + around("(U _)", 30, "(F '')") + ")))");
    }

    private static String around(String outer, int times, String inner) {
        String row = inner;
        for (int i = 0; i < times; i++) {
            row = outer.replace("_", row);
        }
        return row;
    }

    /** What does not come to an assignment, or to what the first values are taken of, leaves nothing behind. */
    private static void stoppedOnTheWay() {
        String rows = "(t 1 (t 1 1000000))";
        Kit.values("!x", "(; (e (: 0 (= 7 (* 3 " + rows + ")))) v0)");
        Kit.values("f", "(l (= 7 (* 3 " + rows + ")) 5)");
        Kit.values("f", "(l (A (t 1 (t 1 (t 1 1000)))) 5)");
    }

    /** A number that was given to somebody, or with which something was begun, comes again. */
    private static void sameNumbersAgain() {
        Kit.values("1 1 2 1 2 3 f", "(t 1 (t 1 3))");
        Kit.values("7 7 14 7 14 21 f", "(* 7 (t 1 (t 1 3)))");
        Kit.values("35 35 f", "(= 35 (* 7 (t 1 (t 1 6))))");
        Kit.values("7 7 7 7 7 7 f", "(= 7 (* 7 (t 1 (t 1 6))))");
        Kit.values("14 14 14 14 14 14 f", "(= 14 (* 7 (t 1 (t 1 (t 1 4)))))");
        Kit.values("8 8 8 f", "(= 8 (* 2 (t 1 (t -1 6))))");
        Kit.values("-2147483648 -2147483648 f", "(= -2147483648 (* 1 (t -2147483648 (t -2147483648 -2147483647))))");
        Kit.values("6 f", "(; (: 0 0) (; (e (* 1 (t 1 (t 1 3))) (: 0 (+ v0 1))) v0))");
        Kit.values("3 f", "(; (: 0 0) (; (e (= 2 (* 1 (t 1 (t 1 4)))) (: 0 (+ v0 1))) v0))");
        Kit.values("6 6 f", "(= 6 (* 2 (t 3 (| 4 (| 2 3)))))");
        Kit.values("3 3 3 f", "(= 3 (* 1 (t 3 (- 0 (t -5 -3)))))");
        Kit.values("5 f", "(= 5 (* 1 (t 3 (- 0 (t -5 -3)))))");
        Kit.values("4 4 4 4 f", "(= 4 (* 1 (t (| 1 2) (t 3 5))))");
    }

    /** What the first values are taken of counts each number. */
    private static void countedNumbers() {
        Kit.values("1 1 2 1 2 f", "(l (t 1 (t 1 3)) 5)");
        Kit.values("4 4 f", "(= 4 (* 2 (l (t 1 (t 1 3)) 5)))");
        Kit.values("f", "(= 6 (* 2 (l (t 1 (t 1 3)) 5)))");
        Kit.values("6 f", "(= 6 (* 2 (l (t 1 (t 1 3)) 6)))");
        Kit.values("f", "(= 6 (* 2 (t 1 (l (t 1 (t 1 3)) 5))))");
        Kit.values("6 f", "(= 6 (* 2 (t 1 (l (t 1 (t 1 3)) 6))))");
        Kit.values("2 2 2 2 2 2 f", "(l 2 (t -1 (t -2 3)))");
        Kit.values("f", "(l 2 (t -1000000 (t -1000000 0)))");
    }

    /** The last number that an assignment gets is that of the last row. */
    private static void whatIsLeftBehind() {
        Kit.values("1 f", "(; (e (: 0 (* 1 (t 1 (- 4 (t 1 3)))))) v0)");
        Kit.values("2 f", "(; (e (: 0 (* 1 (t 1 (- 5 (t 1 3)))))) v0)");
        Kit.values("1 f", "(; (e (= 9 (* 1 (: 0 (* 1 (t 1 (t 1 (- 4 (t 1 3))))))))) v0)");
        Kit.values("9 f", "(; (: 0 9) (; (e (= 9 (u 0 (* 1 (t 1 (t 1 3)))))) v0))");
        Kit.values("!x", "(; (e (= 9 (* 3 (u 0 (* 2 (t 1 (t 1 3))))))) v0)");
    }

    /** Behind a step the same number may come to something. */
    private static void changedBetween() {
        Kit.values("2 f", "(; (: 4 0) (; (! (s '21' (& (H (t 1 (t 1 3))) (; (T 2) (; (: 4 (+ v4 1)) (< 2 1)))))) v4))");
        Kit.values("2 3 f", "(s '21' (+ (H (t 1 (t 1 3))) (; (T 2) 0)))");
    }

    private static void lives() {
        Kit.values("1 1 2 1 2 3 f", "(; (: 0 (c (t 1 (t 1 3)))) (r (@ v0)))");
        Kit.values("5 5 f", "(; (: 0 (c (= 5 (* 1 (t 1 (t 1 6)))))) (r (@ v0)))");
        Kit.values("2 2 f", "(; (: 0 (c (t 1 (t 1 3)))) (= 2 (r (@ v0))))");
        Kit.values("f", "(@ (c (M (t 1 (t 1 1000000)))))");
    }

    /** An expression may be open several times, one behind the other, or within procedures that call themselves. */
    private static void openTwice() {
        String rows = "(= 100 (* 1 " + around("(t 1 _)", 15, "(- 161 (t 61 160))") + "))";
        Kit.values("100 f", "(& " + rows + " #38)");
        Kit.values("100 f", "(& (call 0 1) (call 0 1))", "0=(S " + rows + ")");
        Kit.values("100 f", "(& #38 (call 0 1))", "0=(S " + rows + ")");
    }

    private static void withinProcedures() {
        Kit.values("f", "(= 7 (* 3 (call 0 1)))", "0=(S (t 1 (i (< v0 15) (call 0 (+ v0 1)) (t 1 60))))");
        Kit.values("6 f", "(= 6 (* 3 (call 0 1)))", "0=(S (t 1 (i (< v0 2) (call 0 (+ v0 1)) (t 1 2))))");
        Kit.values("f", "(s '12345' (= 7 (* 3 (call 0 1))))",
                "0=(S (U (* 1 (i (< v0 15) (call 0 (+ v0 1)) (F '')))))");
    }
}
