/** What can still be reached is kept while much else is made and given up in between, and used again. */
public final class KeptTest {
    /** Each makes and gives up many texts and then many nodes, lives or procedures; it has 0, once. */
    private static final String[] CHURNS = {
        "(! (e (| (. 'ab' (t 1 700)) (l (r (+ (t 1 2) (t 1 2))) 100))))",
        "(! (e (| (. 'ab' (t 1 300)) (l (r (c 1)) 350))))",
        "(! (e (| (. 'ab' (t 1 300)) (l (r (call 5 3)) 60))))"};
    private static final String CALLED = "5=(; (: 3 1) (R v0))";

    public static void main(String[] args) {
        for (String churn : CHURNS) {
            values(churn);
            scanning(churn);
            procedures(churn);
            lives(churn);
            eachVariable(churn);
        }
        passing();
        manyAtOnce();
        usedAgain();
        emptyAndLast();
        livesUsedAgain();
        nextRuns();
        manyHanded();
        Kit.end();
    }

    private static void kept(String churn, String want, String notation) {
        kept(churn, want, notation, "0=1");
    }

    private static void kept(String churn, String want, String notation, String body) {
        Kit.values(want, notation.replace("%", churn), body.replace("%", churn), CALLED);
    }

    private static void values(String churn) {
        kept(churn, "'123' f", "(. (. 1 2) (& % 3))");
        kept(churn, "'23' f", "([ (. 12 34) (. '' 2) (& % 4))");
        kept(churn, "'12' f", "(; (: 0 (. 1 2)) (& % v0))");
        kept(churn, "'12' f", "(; (: 0 (. 1 2)) (| (& (u 0 5) (& % (< 2 1))) v0))");
        kept(churn, "'12' '34' f", "(; (: 0 (. 1 2)) (; (: 1 (. 3 4))"
                + " (| (& (y 0 1) (& (: 0 1) (& (: 1 1) (& % (< 2 1))))) (| v0 v1))))");
        kept(churn, "'121' '122' f", "(& (: 0 (. (. 1 2) (t 1 2))) (; % v0))");
        kept(churn, "'121' '122' f", "(& (: 0 (e 1 (b (. (. 1 2) (t 1 2))))) (; % v0))");
        kept(churn, "'12' '12' f", "(& (: 0 (& (~ 12 (. 1 2)) (| (~ 12 (. 1 2)) (~ 12 (. 1 2))))) (; % v0))");
    }

    private static void scanning(String churn) {
        kept(churn, "0 '123' f", "(& (: 0 (s (. 12 3) (| 0 (T 0)))) (; % v0))");
        kept(churn, "'123' f", "(s (. 12 3) (; (s 7 %) q))");
        kept(churn, "'23' f", "(s (. 12 3) (; (m 1) (; % (T 0))))");
        kept(churn, "2 4 f", "(s 1212 (& (: 0 (U (. 2 3))) (; % v0)))");
    }

    private static void procedures(String churn) {
        kept(churn, "1 '12' f", "(& (: 0 (call 0 1)) (; % v0))", "0=(; (: 1 (. 1 2)) (; (S 1) (S v1)))");
        kept(churn, "'123' f", "(. (. 1 2) (call 0 3))", "0=(; % (R v0))");
        kept(churn, "'123' f", "(call 0 (. 1 2) (& % 3))", "0=(R (. v0 v1))");
        kept(churn, "1 '123' f", "(& (: 0 (call 0 1)) (; % v0))", "0=(s (. 12 3) (; (S 1) (S (T 0))))");
        kept(churn, "1 2 f", "(; % (+ (call 0 0) (call 0 1)))", "0=(; (: 2 v0) (S (t v2 1)))");
    }

    private static void lives(String churn) {
        kept(churn, "'12' f", "(; (: 1 (. 1 2)) (; (: 0 (c v1)) (; (: 1 0) (; % (@ v0)))))");
        kept(churn, "'12' f", "(; (: 0 (c (; (: 1 (. 1 2)) (| 1 v1)))) (; (@ v0) (; % (@ v0))))");
        kept(churn, "'12' f", "(; (: 0 (c (s (. 1 2) (| 1 (T 0))))) (; (@ v0) (; % (@ v0))))");
        kept(churn, "'12' f", "(; (s (. 1 2) (: 0 (c q))) (; % (@ v0)))");
        kept(churn, "'12' f", "(; (s (. 1 2) (: 0 (c q))) (; % (; (@ v0) (@ (^ v0)))))");
        kept(churn, "'12' f", "(; (: 1 (c (. 1 2))) (; (: 0 (c (@ v1))) (; (: 1 0) (; % (@ v0)))))");
        kept(churn, "'123' f", "(. (. 1 2) (@ (c (& % 3))))");
        kept(churn, "'1233' f", "(. (. 1 2) (@ (c (. (. 3 '') (@ (c (& % 3)))))))");
        kept(churn, "'12' '12' f", "(; (: 0 (. 1 2)) (| (& (@ (c (& % 1))) v0) v0))");
        kept(churn, "1 2 f", "(; % (; (: 0 (c 1)) (; (: 1 (c 2)) (| (@ v0) (@ v1)))))");
    }

    /** Values of all sorts in any variable: of the run, of a life that has copies, and of one that is made again. */
    private static void eachVariable(String churn) {
        String row = "(; (: A (. 1 2)) (; (: B -7) (; (: L (c (| vA vB))) (; (: A 0) (; (call 0 1) (| (r (@ vL))"
                + " (; (: L (^ vL)) (; (call 0 1) (| (r (@ vL)) (; (: A (. 3 4)) (; (call 0 1) (| vA vB))))))))))))";
        for (int v = 0; v < 8; v++) {
            String others = row.replace("A", "" + v).replace("B", "" + (v + 1) % 8).replace("L", "" + (v + 2) % 8);
            kept(churn, "'12' -7 '12' -7 '34' -7 f", others, "0=(R %)");
        }
    }

    /** Texts on their way from one expression to the next, whenever it is that room is made. */
    private static void passing() {
        for (int ahead = 0; ahead < 9; ahead++) {
            for (int more = 0; more < 4; more++) {
                String text = "(. ".repeat(more) + "(. 'x' v1)" + " '')".repeat(more);
                Kit.values("0 f", "(; (e (. 'p' (t 1 " + ahead + "))) (! (e (: 1 (t 1 35)) (; (: 0 " + text
                        + ") (; (. v0 'q') (i (~ v0 (. 'x' v1)) 1 (b 9)))))))");
            }
        }
    }

    /** More texts than there is room for at first: each life has two, and the life that was made ahead of it. */
    private static void manyAtOnce() {
        String make = "(& (: 2 (t 1 200)) (; (: 1 (. 'x' (: 3 (. v2 '')))) (; (. 'y' v2) (: 0 (c (| v0 (. v1 v3)))))))";
        DoorScan x = Kit.language();
        int first = Kit.put(x, "(; (: 0 0) " + make + ")");
        int follow = Kit.put(x, "(r (; (: 4 (@ v0)) (; (: 1 (@ v0)) (; (: 0 v4) v1))))");
        x.begin(x.make('|', first, follow, -1));
        for (int i = 1; i <= 200; i++) {
            Kit.due("a life", Kit.row(x, 1), "c");
        }
        for (int i = 200; i >= 1; i--) {
            Kit.due("the texts of a life", Kit.row(x, 1), "'x" + i + i + "'");
        }
        Kit.due("behind the first life", Kit.row(x, 1), "!t");
        // and so many in the variables of procedures within one another
        Kit.values("21 f", "(call 0 21)", "0=(; (: 7 (i (; (: 1 (. (: 2 (. (: 3 (. (: 4 (. (: 5 (. (: 6 (. (: 0"
                + " (. v0 '')) 'a')) 'b')) 'c')) 'd')) 'e')) 'f')) (< 0 (: 7 (- v0 1)))) (call 0 v7) 0))"
                + " (R (& (~ v1 (. v0 'abcdef')) (+ v7 1))))");
    }

    /** Many more texts in one asking than are ever kept at once, with one that is kept. */
    private static void usedAgain() {
        String many = "(~ 'abc1500000' (. 'abc' (t 1 1500000)))";
        Kit.values("'abc1500000' f", many);
        Kit.values("'ab' 'abc1500000' 'ab' f", "(; (: 0 (. 'a' 'b')) (| v0 (| " + many + " v0)))");
    }

    /** A text without letters, with a last expression that is a text with letters. */
    private static void emptyAndLast() {
        DoorScan x = new DoorScan();
        int none = Kit.put(x, "(. (| q (T 1)) (m 0))");
        while (x.number(0) < 78) {
            Kit.due("no text has letters yet", x.runs(), 0);
        }
        Kit.due("a letter", x.type('z'), 1);
        Kit.due("the last one", x.text(), 79);
        x.begin(none);
        Kit.due("texts without letters", Kit.row(x, 3), "'' '' f");
        Kit.due("none of them is a number", Kit.answer(() -> x.handed(none, 1)), "UnsupportedOperation");
        Kit.due("so many", x.countHanded(none, 20), 2);
        x.begin(79);
        Kit.due("the last one has a letter", Kit.row(x, 2), "'z' f");
    }

    /** Begins and gives up others than lives, or so many lives, and has 0, once. */
    private static int churn(DoorScan x, int lives) {
        return Kit.put(x, lives == 0 ? "(; (e (l (r (! (! 1))) 300)) 0)" : "(; (e (l (r (c 1)) " + lives + ")) 0)");
    }

    private static int ahead(DoorScan x, int[] churns, int row) {
        int all = row;
        for (int churn : churns) {
            all = x.make('|', churn, all, -1);
        }
        return all;
    }

    /** Lives are kept while many others are given up, one of those that were kept among them, and new ones are made. */
    private static void livesUsedAgain() {
        for (int lives : new int[] {0, 1, 480}) {
            DoorScan x = new DoorScan();
            int some = churn(x, lives);
            int others = churn(x, 0);
            int[] churns = {some, others, others, some, others, others};
            int row = Kit.put(x, "(; (: 3 (c 5)) (; (: 4 (c 6)) (@ (| v0 (| v2 (| v3 (| v4 (| v0 v2))))))))");
            row = x.make(';', Kit.put(x, "(: 1 0)"), ahead(x, churns, row), -1);
            row = ahead(x, churns, row);
            row = Kit.put(x, "(; (: 0 (c (| 2 7))) (; (: 2 (c (| 4 8))) (; (: 1 (c 3)) #" + row + ")))");
            x.begin(row);
            Kit.due("lives that are kept", Kit.row(x, 19), "0 0 0 0 0 0 0 0 0 0 0 0 2 4 5 6 7 8 f");
        }
        // more are made than were given up
        for (int lives : new int[] {1, 40, 59}) {
            DoorScan x = new DoorScan();
            int[] churns = {churn(x, 0), churn(x, 0), churn(x, lives)};
            int row = Kit.put(x, "(; (: 0 0) (; (e (: 2 (t 1 60)) (: 0 (c (| v0 v2))))"
                    + " (r (; (: 4 (@ v0)) (; (: 1 (@ v0)) (; (: 0 v4) v1))))))");
            x.begin(ahead(x, churns, row));
            Kit.due("what was given up", Kit.row(x, 3), "0 0 0");
            for (int i = 60; i >= 1; i--) {
                Kit.due("a life of many", Kit.row(x, 1), String.valueOf(i));
            }
            Kit.due("behind the first one", Kit.row(x, 1), "!t");
        }
    }

    /** What was left of a run does not come up in the next one. */
    private static void nextRuns() {
        DoorScan x = Kit.language("0=(; (: 3 v0) (; (S v3) (S v3)))");
        int call = Kit.put(x, "(call 0 (t 1 2))");
        x.begin(call);
        Kit.due("a procedure that can be gone back into", Kit.row(x, 1), "1");
        x.define(0, Kit.put(x, "(R v0)"));
        x.begin(call);
        Kit.due("another one", Kit.row(x, 3), "1 2 f");
        x.define(0, Kit.put(x, "(R v3)"));
        x.begin(call);
        Kit.due("its variables", Kit.row(x, 1), "!x");
        x.begin(Kit.put(x, "(r 1)"));
        Kit.due("a round", Kit.row(x, 2), "1 1");
        long steps = x.steps();
        x.begin(Kit.put(x, "(r (< 2 1))"));
        Kit.due("no round", Kit.row(x, 1), "f");
        Kit.due("its steps", x.steps() - steps, 4);
        int life = Kit.put(x, "(; (: 0 (c (t 1 2))) (r (@ v0)))");
        for (int i = 0; i < 3; i++) {
            x.begin(life);
            Kit.due("a life in each run", Kit.row(x, 3), "1 2 f");
        }
    }

    private static void manyHanded() {
        DoorScan x = Kit.language("0=(R (call 0 v0))", "1=(R v0)");
        int deep = Kit.put(x, "(call 0 1)");
        int flat = Kit.put(x, "(call 1 (t 1 3))");
        for (int i = 0; i < 200; i++) {
            Kit.due("too deep", x.countHanded(deep, 1), 0);
            Kit.due("not too deep", x.countHanded(flat, 20), 3);
        }
    }
}
