/** What a run can still reach is kept while much else is made and given up in between. */
public final class KeptTest {
    /** Makes and gives up many texts, then many expressions that were begun; 0 once. */
    private static final String CHURN = "(! (e (| (. 'ab' (t 1 700)) (l (r (+ (t 1 2) (t 1 2))) 100))))";
    /** Likewise many lives. */
    private static final String LIVES = "(! (e (| (. 'ab' (t 1 300)) (l (r (c 1)) 350))))";

    public static void main(String[] args) {
        for (String churn : new String[] {CHURN, LIVES}) {
            values(churn);
            scanning(churn);
            procedures(churn);
            lives(churn);
        }
        passing();
        Kit.end();
    }

    private static void kept(String churn, String want, String notation, String... bodies) {
        String[] full = new String[bodies.length];
        for (int i = 0; i < bodies.length; i++) {
            full[i] = bodies[i].replace("%", churn);
        }
        Kit.values(want, notation.replace("%", churn), full);
    }

    private static void values(String churn) {
        kept(churn, "'xyz' f", "(. (. 'x' 'y') (& % 'z'))");
        kept(churn, "'bc' f", "([ (. 'ab' 'cd') (. '' 2) (& % 4))");
        kept(churn, "'op' f", "(; (: 0 (. 'o' 'p')) (& % v0))");
        kept(churn, "'op' f", "(; (: 0 (. 'o' 'p')) (| (& (u 0 5) (& % (< 2 1))) v0))");
        kept(churn, "'op' 'qr' f", "(; (: 0 (. 'o' 'p')) (; (: 1 (. 'q' 'r'))"
                + " (| (& (y 0 1) (& (: 0 1) (& (: 1 1) (& % (< 2 1))))) (| v0 v1))))");
        kept(churn, "'ab1' 'ab2' f", "(& (: 0 (. (. 'a' 'b') (t 1 2))) (; % v0))");
    }

    private static void scanning(String churn) {
        kept(churn, "'x' 'abc' f", "(& (: 0 (s (. 'ab' 'c') (| 'x' (T 0)))) (; % v0))");
        kept(churn, "'abc' f", "(s (. 'ab' 'c') (; (s 'x' %) q))");
        kept(churn, "'bc' f", "(s (. 'ab' 'c') (; (m 1) (; % (T 0))))");
        kept(churn, "2 4 f", "(s 'abab' (& (: 0 (U (. 'b' 'x'))) (; % v0)))");
    }

    private static void procedures(String churn) {
        kept(churn, "1 'ab' f", "(& (: 0 (call 0 1)) (; % v0))", "0=(; (: 1 (. 'a' 'b')) (; (S 1) (S v1)))");
        kept(churn, "'abz' f", "(. (. 'a' 'b') (call 0 'z'))", "0=(; % (R v0))");
        kept(churn, "'abz' f", "(call 0 (. 'a' 'b') (& % 'z'))", "0=(R (. v0 v1))");
        kept(churn, "1 'abc' f", "(& (: 0 (call 0 1)) (; % v0))", "0=(s (. 'ab' 'c') (; (S 1) (S (T 0))))");
    }

    private static void lives(String churn) {
        kept(churn, "'ab' f", "(; (: 1 (. 'a' 'b')) (; (: 0 (c v1)) (; (: 1 0) (; % (@ v0)))))");
        kept(churn, "'ab' f", "(; (: 0 (c (; (: 1 (. 'a' 'b')) (| 1 v1)))) (; (@ v0) (; % (@ v0))))");
        kept(churn, "'ab' f", "(; (: 0 (c (s (. 'a' 'b') (| 1 (T 0))))) (; (@ v0) (; % (@ v0))))");
        kept(churn, "'ab' f", "(; (s (. 'a' 'b') (: 0 (c q))) (; % (@ v0)))");
        kept(churn, "'ab' f", "(; (s (. 'a' 'b') (: 0 (c q))) (; % (; (@ v0) (@ (^ v0)))))");
        kept(churn, "'ab' f", "(; (: 1 (c (. 'a' 'b'))) (; (: 0 (c (@ v1))) (; (: 1 0) (; % (@ v0)))))");
        kept(churn, "'xyz' f", "(. (. 'x' 'y') (@ (c (& % 'z'))))");
        kept(churn, "'xyzz' f", "(. (. 'x' 'y') (@ (c (. (. 'z' '') (@ (c (& % 'z')))))))");
        kept(churn, "'xy' 'xy' f", "(; (: 0 (. 'x' 'y')) (| (& (@ (c (& % 1))) v0) v0))");
    }

    /** Texts on their way from one expression to the next, whenever it is that room is made. */
    private static void passing() {
        for (int more = 0; more < 6; more++) {
            StringBuilder text = new StringBuilder("(. 'x' v1)");
            for (int i = 0; i < more; i++) {
                text.insert(0, "(. ").append(" '')");
            }
            Kit.values("0 f", "(! (e (: 1 (t 1 35)) (; (: 0 " + text + ") (; (. v0 'q')"
                    + " (i (~ v0 (. 'x' v1)) 1 (b 9))))))");
        }
    }
}
