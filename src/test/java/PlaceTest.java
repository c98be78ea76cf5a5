/**
 * Promises 12, 24 and 25: a number that came to nothing at one place is given again at another one, by 't', 'U' and 'F'
 * and in both ways; and so is one that has left something behind.
 */
public final class PlaceTest {
    public static void main(String[] args) {
        countedAtAnotherPlace();
        foundAtAnotherPlace();
        outermostPlaces();
        throughOthers();
        inProcedures();
        inLives();
        leftBehind();
        begunTwice();
        Kit.end();
    }

    /** A 't' gives the numbers up to a text behind which the place is another one. */
    private static void countedAtAnotherPlace() {
        Kit.values("3 f", "(s '95' (P (t 3 (m (t 1 2)))))");
        Kit.values("3 3 f", "(s '12' (P (t 0 (T (t 1 3)))))");
        Kit.values("4 4 4 4 f", "(s '121' (A (t 0 (T (t 1 3)))))");
        Kit.values("4 4 4 4 f", "(s '121' (M (t 0 (T (t 1 3)))))");
        Kit.values("2 f", "(s '21' (U (t 0 (T (- 5 (t 1 3))))))");
        Kit.values("2 f", "(s '21' (F (t 0 (T (- 5 (t 1 3))))))");
        Kit.values("4 f", "(s '121' (H (t 0 (T (t 1 3)))))");
        Kit.values("21 f", "(s '21' (= 21 (T (t 0 (m (t 1 2))))))");
        Kit.values("1 f", "(s '121' (= 1 (m (t 0 (m (t 1 2))))))");
    }

    private static void foundAtAnotherPlace() {
        Kit.values("2 4 f", "(s '1121' (P (U (m (t 0 3)))))");
        Kit.values("1 2 f", "(s '1121' (P (F (m (t 0 3)))))");
    }

    private static void outermostPlaces() {
        String zeros = "0".repeat(57);
        Kit.values("61 f", "(s '" + zeros + "991' (; (T 58) (P (t 61 (m (t 2 3))))))");
        Kit.values("60 f", "(s '" + zeros + "919' (; (T 58) (P (U (m (t 1 2))))))");
        Kit.values("1 f", "(s '17' (; (T 3) (= 1 (P (t 1 (T (- 3 (t 1 2))))))))");
    }

    private static void throughOthers() {
        Kit.values("3 f", "(s '95' (P (u 0 (t 3 (m (t 1 2))))))");
        Kit.values("3 f", "(s '95' (P (: 0 (t 3 (m (t 1 2))))))");
        Kit.values("3 f", "(s '95' (P (t 3 (u 0 (m (t 1 2))))))");
        Kit.values("3 f", "(s '95' (P (t 3 (: 0 (m (t 1 2))))))");
        Kit.values("3 f", "(s '95' (P (l (t 3 (m (t 1 2))) 100)))");
        Kit.values("3 3 3", "(s '95' (r (P (t 3 (m (t 1 2))))))");
        Kit.values("3 f", "(s '95' (P (e 1 (b (t 3 (m (t 1 2)))))))");
        Kit.values("2 2 3 3 f", "(s '95' (P (+ 1 (- 5 (t 3 (m (t 1 2)))))))");
        Kit.values("3 3 3 3", "(s '95' (P (t 3 (t 3 (m (t 1 2))))))");
    }

    private static void inProcedures() {
        Kit.values("3 f", "(s '95' (P (call 0 1)))", "0=(S (t 3 (m (t 1 2))))");
        Kit.values("3 f", "(s '95' (call 0 1))", "0=(S (P (t 3 (m (t 1 2)))))");
        Kit.values("3 f", "(call 0 1)", "0=(s '95' (S (P (t 3 (m (t 1 2))))))");
        Kit.values("3 f", "(s '95' (call 0 1))", "0=(R (P (t 3 (m (t 1 2)))))");
    }

    private static void inLives() {
        Kit.values("3 f", "(; (: 0 (c (s '95' (P (t 3 (m (t 1 2))))))) (r (@ v0)))");
        Kit.values("3 f", "(s '95' (; (: 0 (c (P (t 3 (m (t 1 2)))))) (r (@ v0))))");
        Kit.values("3 3 f", "(; (: 0 (c (s '95' (t 3 (m (t 1 2)))))) (= 3 (r (@ v0))))");
    }

    /** What an expression that is open twice has given in vain the second time may come to something the first time. */
    private static void begunTwice() {
        Kit.values("2 2 2 2 2 2 f", "(& (s '2' (H (t 2 (- 5 (t 1 3))))) (s '3' (H #7)))");
        Kit.values("2 2 2 2 2 2 f", "(s '1231' (& (= 1 (F (t 1 (- 4 (t 1 3))))) (= 2 #9)))");
        Kit.values("2 2 2 2 2 2 f", "(s '1231' (& (= 1 (U (t 1 (- 4 (t 1 3))))) (= 2 #9)))");
        Kit.values("2 2 2 2 2 2 f", "(& (call 0 '2') (call 0 '3'))", "0=(S (s v0 (H (t 2 (- 5 (t 1 3))))))");
        Kit.values("2 2 2 2 2 2 f", "(& (s '2' (H (call 0 1))) (call 1 1))", "0=(S (t 2 (- 5 (t 1 3))))",
                "1=(S (s '3' (H (call 0 1))))");
    }

    /** What an assignment has got, or what first values are taken of has counted. */
    private static void leftBehind() {
        Kit.values("1 f", "(; (e (s '12' (: 0 (U (t 1 10))))) v0)");
        Kit.values("2 f", "(; (e (s '12' (: 0 (U (t 1 9))))) v0)");
        Kit.values("f", "(= 2 (* 1 (l (s '12' (U (t 10 22))) 3)))");
        Kit.values("2 f", "(= 2 (* 1 (l (s '12' (U (t 10 22))) 4)))");
        Kit.values("2 f", "(; (e (: 0 (= 2 (* 1 (t 1 (t 1 3)))))) v0)");
        Kit.values("1 f", "(; (e (: 0 (< (: 1 0) (* 1 (t 1 (- 4 (t 1 3))))))) v0)");
    }
}
