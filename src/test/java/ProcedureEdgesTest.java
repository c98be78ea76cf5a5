/** Terms, 'Loops', 'Procedures' and 'Lives': each sentence that names an edge, at the edge and to either side of it. */
public final class ProcedureEdgesTest {
    private static final String FAILS = "(< 2 1)";

    public static void main(String[] args) {
        eachValue();
        asLongAs();
        leaving();
        goingOn();
        noLoop();
        aroundItsParts();
        variables();
        eachOfBoth();
        eachProcedure();
        suspending();
        returning();
        failing();
        outside();
        withoutBody();
        copies();
        nothingAround();
        nextOfLife();
        anewLife();
        noLife();
        Kit.end();
    }

    // ---- loops

    /** 'e': "for each value of a, b is bounded, if it is told; then it fails" */
    private static void eachValue() {
        for (int values = 0; values <= 3; values++) {
            String counted = "(; (: 0 0) (; (e (t 1 " + values + ") (: 0 (+ v0 1))) v0))";
            Kit.values(values + " f", counted);
            Kit.values(values + " f", counted.replace("(: 0 (+ v0 1))", "(& (: 0 (+ v0 1)) " + FAILS + ")"));
            Kit.values(values + " f", counted.replace("(: 0 (+ v0 1))", "(| (: 0 (+ v0 1)) v7)"));
            Kit.values("f", "(e (t 1 " + values + "))");
            Kit.values("f", "(e (t 1 " + values + ") 5)");
            Kit.values(values == 0 ? "!x" : values + " f", "(; (e (: 0 (t 1 " + values + "))) v0)");
        }
        Kit.values("f", "(e " + FAILS + " v0)");
        Kit.values("!x", "(e 1 v0)");
    }

    /** 'w': "as long as a, bounded, does not fail, b is bounded, if it is told; then it fails" */
    private static void asLongAs() {
        for (int rounds = 0; rounds <= 3; rounds++) {
            String counted = "(; (: 0 0) (; (w (< v0 " + rounds + ") (: 0 (+ v0 1))) v0))";
            Kit.values(rounds + " f", counted);
            Kit.values(rounds + " f", counted.replace("(: 0 (+ v0 1))", "(& (: 0 (+ v0 1)) " + FAILS + ")"));
            Kit.values(rounds + " f", counted.replace("(: 0 (+ v0 1))", "(| (: 0 (+ v0 1)) v7)"));
            Kit.values(rounds + 1 + " f", "(; (: 0 0) (; (w (< (: 0 (+ v0 1)) " + (rounds + 1) + ")) v0))");
            Kit.values("f", "(; (: 0 0) (w (< v0 " + rounds + ") (: 0 (+ v0 1))))");
        }
        Kit.values("f", "(w " + FAILS + " v0)");
        Kit.values("!z", "(w (| 1 v1) (/ 1 0))");
    }

    /** 'b': the loop "has the values of a then, none if a is not told" */
    private static void leaving() {
        for (String loop : new String[] {"(e (t 1 3) X)", "(e X 5)", "(e X)", "(w 1 X)", "(w X 5)", "(w X)",
            "(w 1 (; X 5))", "(e (t 1 3) (| X 5))", "(e 1 (! X))", "(w (i X 5 6) 7)"}) {
            Kit.values("f", loop.replace("X", "b"));
            Kit.values("4 f", "(| " + loop.replace("X", "b") + " 4)");
            Kit.values("f", loop.replace("X", "(b " + FAILS + ")"));
            Kit.values("8 f", loop.replace("X", "(b 8)"));
            Kit.values("7 8 9 f", loop.replace("X", "(b (t 7 9))"));
            Kit.values("7 8 9 4 f", "(| " + loop.replace("X", "(b (t 7 9))") + " 4)");
            Kit.values("7 !x", loop.replace("X", "(b (| 7 v0))"));
            // the innermost one alone
            Kit.values("4 f", "(; (: 1 3) (; (e (t 1 2) (; " + loop.replace("X", "b") + " (: 1 (+ v1 1)))) (- v1 1)))");
        }
    }

    /** 'n': "goes on with that loop, as if its b were done" */
    private static void goingOn() {
        for (int values = 0; values <= 3; values++) {
            String counted = "(; (: 0 0) (; (e (t 1 " + values + ") (; (: 0 (+ v0 1)) (; X (: 0 9)))) v0))";
            Kit.values(values + " f", counted.replace("X", "n"));
            Kit.values(values + " f", counted.replace("X", "(+ 1 n)"));
            String rounds = "(; (: 0 0) (; (w (< v0 " + values + ") (; (: 0 (+ v0 1)) (; n (: 0 9)))) v0))";
            Kit.values(values + " f", rounds);
        }
        Kit.values("3 f", "(; (: 0 0) (; (w (; (: 0 (+ v0 1)) (i (< v0 3) n))) v0))");
        Kit.values("6 f", "(; (: 0 0) (; (e (t 1 2) (; (e (t 1 3) (; (: 0 (+ v0 1)) n)) 5)) v0))");
    }

    /** "error 'b' for both if there is none" */
    private static void noLoop() {
        for (String kind : new String[] {"n", "b", "(b 5)", "(b v0)"}) {
            Kit.values("!b", kind);
            Kit.values("!b", "(! " + kind + ")");
            Kit.values("!b", "(; (e (t 1 3)) " + kind + ")");
            Kit.values("!b", "(| (w " + FAILS + ") " + kind + ")");
            Kit.values("!b", "(e 1 (b " + kind + "))");
            Kit.values("!b", "(w 1 (b (+ 1 " + kind + ")))");
            Kit.values("!b", "(e 1 (call 0 1))", "0=" + kind);
            Kit.values("!b", "(w (call 0 1))", "0=" + kind);
            Kit.values("!b", "(e 1 (@ (c " + kind + ")))");
            Kit.values("!b", "(w (@ (c " + kind + ")))");
        }
    }

    /** "A loop is around its a and b, not around the a of a 'b'" */
    private static void aroundItsParts() {
        Kit.values("6 f", "(e 1 (e 1 (b (b 6))))");
        Kit.values("6 f", "(e 1 (w 1 (b (b 6))))");
        Kit.values("6 f", "(w 1 (e (b (b 6))))");
        Kit.values("6 f", "(w (w (b (b 6))))");
        Kit.values("6 f", "(e 1 (e 1 (e 1 (b (b (b 6))))))");
        Kit.values("!b", "(e 1 (e 1 (b (b (b 6)))))");
        Kit.values("2 f", "(; (: 0 0) (; (e (t 1 2) (w 1 (b (; (: 0 (+ v0 1)) n)))) v0))");
        Kit.values("4 f", "(; (: 0 0) (; (w (< v0 4) (e 1 (b (; (: 0 (+ v0 1)) n)))) v0))");
        Kit.values("6 f", "(call 0 1)", "0=(e 1 (b (S 6)))");
        Kit.values("6 7 f", "(call 0 1)", "0=(e 1 (b (e (: 1 (t 6 7)) (S v1))))");
    }

    // ---- procedures

    /** "has the variables 0 and 1 ... the second one being left out if it is not told ...; all other ... have none" */
    private static void variables() {
        StringBuilder set = new StringBuilder("(call 0 3 4)");
        StringBuilder setOne = new StringBuilder("(call 0 3)");
        for (int v = 0; v <= 7; v++) {
            set.insert(0, "(; (: " + v + " 9) ").append(")");
            setOne.insert(0, "(; (: " + v + " 9) ").append(")");
        }
        for (int v = 0; v <= 7; v++) {
            String want = v == 0 ? "3 f" : v == 1 ? "4 f" : "!x";
            Kit.values(want, set.toString(), "0=(R v" + v + ")");
            Kit.values(v == 0 ? "3 f" : "!x", setOne.toString(), "0=(R v" + v + ")");
            Kit.values("7 9 f", set.toString().replace("(call 0 3 4)", "(| (call 0 3 4) v" + v + ")"),
                    "0=(; (: " + v + " 5) (R 7))");
        }
        Kit.values("'a' '' f", "(| (call 0 'a' '') (call 1 'a' ''))", "0=(R v0)", "1=(R v1)");
    }

    /** "for each value of both" */
    private static void eachOfBoth() {
        Kit.values("13 14 23 24 f", "(call 0 (| 10 20) (| 3 4))", "0=(R (+ v0 v1))");
        Kit.values("1 2 f", "(call 0 (| 1 2))", "0=(R v0)");
        Kit.values("f", "(call 0 " + FAILS + ")", "0=(R 1)");
        Kit.values("f", "(call 0 1 " + FAILS + ")", "0=(R 1)");
        Kit.values("f", "(call 0 " + FAILS + " v0)", "0=(R 1)");
        Kit.values("13 23 f", "(call 0 (| 10 20) (| 3 4))", "0=(i (= v1 3) (R (+ v0 v1)) f)");
        Kit.values("10 11 20 21 f", "(call 0 (| 10 20))", "0=(S (t v0 (+ v0 1)))");
    }

    /** "the procedures 0 to 5, each of which can be given an expression as its body" */
    private static void eachProcedure() {
        String[] bodies = new String[6];
        for (int p = 0; p <= 5; p++) {
            bodies[p] = p + "=(R " + (p + 10) + ")";
        }
        for (int p = 0; p <= 5; p++) {
            Kit.values(p + 10 + " f", "(call " + p + " 1)", bodies);
            Kit.values(p + 20 + " f", "(call " + p + " 1)", bodies[0], bodies[1], bodies[2], bodies[3], bodies[4],
                    bodies[5], p + "=(R " + (p + 20) + ")");
            Kit.values("!x", "(call " + (5 - p) + " 1)", bodies[p]);
        }
    }

    /** 'S': "each value of a, for each of which the procedure can be gone back into, where 'S' has no values itself" */
    private static void suspending() {
        for (int values = 0; values <= 3; values++) {
            StringBuilder want = new StringBuilder();
            for (int i = 1; i <= values; i++) {
                want.append(i).append(' ');
            }
            Kit.values(want + "f", "(call 0 1)", "0=(S (t 1 " + values + "))");
            Kit.values(want + "8 f", "(call 0 1)", "0=(| (S (t 1 " + values + ")) (S 8))");
            Kit.values(want + "8 f", "(call 0 1)", "0=(; (S (t 1 " + values + ")) (S 8))");
            Kit.values(want + "f", "(call 0 1)", "0=(& (S (t 1 " + values + ")) (S 8))");
            Kit.values(want + "0 f", "(call 0 1)", "0=(S (! (S (t 1 " + values + "))))");
            Kit.values(want + "9 f", "(call 0 1)", "0=(i (S (t 1 " + values + ")) (S 8) (S 9))");
        }
        Kit.values("1 !x", "(call 0 1)", "0=(S (| 1 v7))");
        Kit.values("f", "(call 0 1)", "0=(S (S " + FAILS + "))");
        Kit.values("5 f", "(call 0 1)", "0=(S (S 5))");
        // it is gone back into as it was left, its variables with it
        Kit.values("1 9 2 9 3 9 f", "(; (: 2 9) (& (: 3 (call 0 1)) (| v3 v2)))", "0=(e (: 2 (t 1 3)) (S v2))");
    }

    /** 'R': "is bounded, and ends the procedure with its value, without going back into it" */
    private static void returning() {
        Kit.values("5 f", "(call 0 1)", "0=(R (| 5 v7))");
        Kit.values("5 f", "(call 0 1)", "0=(| (R 5) (S 6))");
        Kit.values("5 f", "(call 0 1)", "0=(& (t 1 3) (R 5))");
        Kit.values("5 f", "(call 0 1)", "0=(e (t 1 3) (R 5))");
        Kit.values("1 5 f", "(call 0 1)", "0=(e (: 2 (t 1 3)) (i (= v2 1) (S 1) (R 5)))");
        Kit.values("5 8 f", "(| (call 0 1) 8)", "0=(r (R 5))");
    }

    /** "the call fails behind the last one, if the body ends, by 'R' without a value, and by 'f'" */
    private static void failing() {
        for (String end : new String[] {"5", FAILS, "(t 1 3)", "R", "(R " + FAILS + ")", "f", "(e (t 1 2))", "(! f)",
            "(& 1 R)", "(w 1 f)", "(e 1 (b R))"}) {
            Kit.values("f", "(call 0 1)", "0=" + end);
            Kit.values("1 2 f", "(call 0 1)", "0=(; (S (t 1 2)) " + end + ")");
            Kit.values("1 2 1 2 f", "(call 0 (t 1 2))", "0=(; (S (t 1 2)) " + end + ")");
            Kit.values("8 f", "(| (call 0 1) 8)", "0=" + end);
        }
        // what is behind an 'R' or 'f' is not begun
        for (String end : new String[] {"R", "(R " + FAILS + ")", "f"}) {
            Kit.values("f", "(call 0 1)", "0=(| " + end + " v7)");
            Kit.values("f", "(call 0 1)", "0=(; " + end + " (S 3))");
            Kit.values("f", "(call 0 1)", "0=(r " + end + ")");
            Kit.values("f", "(call 0 1)", "0=(w 1 " + end + ")");
        }
    }

    /** "Error 'b' for 'S', 'R' and 'f' outside of procedures" */
    private static void outside() {
        for (String kind : new String[] {"(S 1)", "(R 1)", "R", "f", "(S (| 1 2))"}) {
            Kit.values("!b", kind);
            Kit.values("1 !b", "(| 1 " + kind + ")");
            Kit.values("!b", "(e 1 " + kind + ")");
            Kit.values("!b", "(call 0 " + kind + ")", "0=(R 1)");
            Kit.values("!b", "(& (call 0 1) " + kind + ")", "0=(S 1)");
            Kit.values("!b", "(call 0 1)", "0=(@ (c " + kind + "))");
        }
    }

    /** "and 'x' for a procedure without a body" */
    private static void withoutBody() {
        for (int p = 0; p <= 5; p++) {
            Kit.values("!x", "(call " + p + " 1)");
            Kit.values("!x", "(call " + p + " 1 2)");
            Kit.values("f", "(call " + p + " " + FAILS + ")");
        }
        DoorScan x = new DoorScan();
        int call = Kit.put(x, "(| (call 3 1) 9)");
        x.begin(call);
        Kit.due("without a body", Kit.row(x, 1), "!x");
        x.define(3, Kit.put(x, "(S 5)"));
        x.begin(call);
        Kit.due("with a body", Kit.row(x, 3), "5 9 f");
    }

    // ---- lives

    /** 'c': "with copies of all variables, the subject and the place, as they are" */
    private static void copies() {
        for (int v = 1; v <= 7; v++) {
            Kit.values("5 8 6 f", "(; (: V 5) (; (: 0 (c (| V0 (: V 8)))) (; (: V 6) (| (@ v0) (| (@ v0) V0)))))"
                    .replace("V0", "v" + v).replace("V", String.valueOf(v)));
            Kit.values("!x", "(; (: 0 (c V0)) (; (: V 6) (@ v0)))".replace("V0", "v" + v)
                    .replace("V", String.valueOf(v)));
        }
        Kit.values("!x", "(; (: 0 (c v0)) (@ v0))");
        Kit.values("4 f", "(; (: 0 4) (; (: 0 (c v0)) (@ v0)))");
        Kit.values("'abc' 3 f", "(; (s 'abc' (; (T 3) (: 0 (c (| q p))))) (r (@ v0)))");
        Kit.values("'ab' 3 f", "(s 'abc' (; (T 3) (; (: 0 (c (| (T 1) (T 0)))) (; (@ v0) (| (@ (^ v0)) p)))))");
    }

    /** "and no loop and procedure around it" */
    private static void nothingAround() {
        for (String kind : new String[] {"n", "b", "(b 1)", "(S 1)", "(R 1)", "R", "f"}) {
            Kit.values("!b", "(call 0 1)", "0=(e 1 (; (: 0 (c " + kind + ")) (@ v0)))");
            Kit.values("!b", "(call 0 1)", "0=(w 1 (@ (c (+ 1 " + kind + "))))");
        }
        Kit.values("1 2 f", "(call 0 1)", "0=(e 1 (; (: 0 (c (e (t 1 2) (b (t 1 2))))) (S (r (@ v0)))))");
    }

    /** '@': "the next value of this life, once; it fails if that has no more" */
    private static void nextOfLife() {
        for (int values = 0; values <= 3; values++) {
            StringBuilder want = new StringBuilder();
            for (int i = 1; i <= values; i++) {
                want.append(i).append(' ');
            }
            String life = "(; (: 0 (c (t 1 " + values + "))) X)";
            Kit.values(want + "f", life.replace("X", "(| (@ v0) (| (@ v0) (| (@ v0) (@ v0))))"));
            Kit.values(want + "8 f", life.replace("X", "(| (r (@ v0)) (| (@ v0) 8))"));
            Kit.values(want + "f", life.replace("X", "(@ (| v0 (| v0 (| v0 v0))))"));
            Kit.values(values > 0 ? "1 f" : "f", life.replace("X", "(@ v0)"));
        }
        Kit.values("1 5 2 f", "(; (: 0 (c (t 1 2))) (; (: 1 (c 5)) (@ (| v0 (| v1 (| v1 v0))))))");
        Kit.values("1 !x", "(; (: 0 (c (| 1 v7))) (r (@ v0)))");
        Kit.values("'' 0 f", "(; (: 0 (c (| '' 0))) (r (@ v0)))");
    }

    /** '^': "a new life of the same expression, as that was when it was made" */
    private static void anewLife() {
        for (String between : new String[] {"0", "(@ v0)", "(; (@ v0) (@ v0))", "(! (e (r (@ v0))))"}) {
            Kit.values("1 2 f", "(; (: 0 (c (t 1 2))) (; " + between + " (; (: 1 (^ v0)) (r (@ v1)))))");
            Kit.values("1 2 f", "(; (: 0 (c (t 1 2))) (; " + between + " (; (: 1 (^ (^ v0))) (r (@ v1)))))");
            // what the life has assigned and moved is its own
            Kit.values("5 6 f", "(; (: 2 5) (; (: 0 (c (| v2 (: 2 6)))) (; (: 2 7) (; " + between
                    + " (; (: 1 (^ v0)) (r (@ v1)))))))");
            Kit.values("2 3 f", "(s 'abc' (; (T 2) (; (: 0 (c (| p (; (T 3) p)))) (; (T 1) (; " + between
                    + " (; (: 1 (^ v0)) (r (@ v1))))))))");
        }
        Kit.values("1 1 2 2 f", "(; (: 0 (c (t 1 2))) (; (: 1 (^ v0)) (| (@ v0) (| (@ v1) (| (@ v1) (@ v0))))))");
        Kit.values("c c f", "(; (: 0 (c 1)) (^ (| v0 v0)))");
        Kit.values("f", "(^ " + FAILS + ")");
    }

    /** "Error 't' for a value that is no life" */
    private static void noLife() {
        for (String kind : new String[] {"@", "^"}) {
            for (String none : new String[] {"0", "1", "-1", "''", "'a'", "'0'", "q", "p"}) {
                Kit.values("!t", "(" + kind + " " + none + ")");
            }
            Kit.values((kind.equals("@") ? "7" : "c") + " !t", "(" + kind + " (| (c 7) 0))");
        }
    }
}
