import java.lang.reflect.Field;

/**
 * Promise 31. As both ways find the same values, isSound is made to see others here: the second way of an object is put
 * in place of that of another one, the last expression of which is another one.
 */
public final class SoundTest {
    /** The expressions 0 to 7 of each object; 3 has an error, 4 no value, and 7 values without an end. */
    private static final String[] BEFORE = {"1", "2", "3", "v7", "(< #1 #0)", "(| #0 #1)", "(t #0 #1)", "(r #0)"};

    public static void main(String[] args) throws ReflectiveOperationException {
        sameValues();
        firstThree();
        kindsAndTexts();
        aheadOfErrors();
        limits();
        steps();
        lives();
        livesOfProcedures();
        eachExpression();
        Kit.end();
    }

    /** Whether the one is sound if its second way finds the values of the expressions of the other one. */
    private static boolean isSound(DoorScan one, DoorScan other) throws ReflectiveOperationException {
        Field handing = DoorScan.class.getDeclaredField("handing");
        handing.setAccessible(true);
        handing.set(one, handing.get(other));
        return one.isSound();
    }

    /** An object with some more expressions, and bodies, which are told as 0=notation, and with a last expression. */
    private static DoorScan language(String last, String... more) {
        DoorScan x = new DoorScan();
        for (String notation : BEFORE) {
            Kit.put(x, notation);
        }
        for (String notation : more) {
            if (notation.indexOf('=') == 1 && notation.charAt(0) != '(') {
                x.define(notation.charAt(0) - '0', Kit.put(x, notation.substring(2)));
            } else {
                Kit.put(x, notation);
            }
        }
        Kit.put(x, last);
        return x;
    }

    /** Compares an expression by the first way with another one, which is made of the same ones, by the second way. */
    private static void due(boolean want, String first, String second, String... more)
            throws ReflectiveOperationException {
        Kit.due("isSound() of " + first + " by the first way and " + second + " by the second one",
                isSound(language(first, more), language(second, more)), want);
    }

    private static void both(boolean want, String one, String other, String... more)
            throws ReflectiveOperationException {
        due(want, one, other, more);
        due(want, other, one, more);
        due(true, one, one, more);
        due(true, other, other, more);
    }

    private static void sameValues() throws ReflectiveOperationException {
        both(true, "(| #0 #1)", "(t #0 #1)");
        both(true, "(< #1 #0)", "(= #1 #0)");
        both(true, "(+ #0 #1)", "3");
        both(false, "(| #0 #1)", "(| #1 #0)");
        both(false, "(| #0 #1)", "(| #0 #2)");
        both(false, "1", "2");
        both(false, "1", "(< #1 #0)");
    }

    /** "its first 3 values" */
    private static void firstThree() throws ReflectiveOperationException {
        both(false, "(t #0 #0)", "(t #0 #1)");
        both(false, "(t #0 #1)", "(t #0 #2)");
        both(true, "(t #0 #2)", "(t #0 #8)", "4");
        both(true, "(t #0 #8)", "(t #0 #9)", "4", "5");
        both(false, "(| #6 #2)", "(| #6 #0)");
        both(true, "(| #8 #2)", "(| #8 #0)", "(t #0 #2)");
    }

    /** "as kinds and as texts" */
    private static void kindsAndTexts() throws ReflectiveOperationException {
        both(false, "1", "'1'");
        both(false, "0", "''");
        both(false, "1", "-1");
        both(false, "'ab'", "'ac'");
        both(false, "'ab'", "'bb'");
        both(false, "'ab'", "'a'");
        both(false, "'1'", "'01'");
        both(false, "''", "' '");
        both(true, "''", "q");
        both(true, "'12'", "(. #0 #1)");
        both(false, "'123'", "(. #0 #1)");
    }

    /** "or those that there are ahead of an error": what ends them is the same, how many there are is not. */
    private static void aheadOfErrors() throws ReflectiveOperationException {
        String sixty = "'" + "1234567890".repeat(6) + "'";
        for (String error : new String[] {"v6", "(x 0 1)", "(/ #0 #8)", "(. #9 #9)", "n", "b", "(R #0)", "f", "(@ #0)",
            "(^ #0)", "(call 4 #0)"}) {
            both(true, error, "(< #1 #0)", "0", sixty);
            both(false, error, "1", "0", sixty);
        }
        both(true, "(| #0 #3)", "(| #0 #4)");
        both(true, "(| #6 #3)", "(| #6 #4)");
        both(true, "(| #8 #3)", "(| #8 #0)", "(t #0 #2)");
        both(false, "(| #0 #3)", "(| #0 #1)");
        both(false, "(| #6 #3)", "(| #6 #1)");
        both(false, "(| #3 #0)", "(| #4 #0)");
        both(false, "(| #0 #3)", "(| #1 #3)");
    }

    /** "or one of the ways came to the error l or d" */
    private static void limits() throws ReflectiveOperationException {
        both(true, "(e #7)", "1");
        both(true, "(| #0 #8)", "(| #0 #1)", "(e #7)");
        String round = "0=(R (call 0 v0))";
        both(true, "(call 0 #0)", "1", round);
        both(true, "(| #0 #11)", "(| #0 #1)", round, "(call 0 #0)");
        both(true, "(| #6 #11)", "(| #6 #1)", round, "(call 0 #0)");
        // what would come behind the third value does not
        for (String behind : new String[] {"(e #7)", "(call 0 #0)"}) {
            both(false, "(| #11 #13)", "(| #12 #13)", round, "(| #5 #0)", "(| #5 #1)", behind);
        }
    }

    /** "for this, the error l comes by each way ahead of the step 101 of all" */
    private static void steps() throws ReflectiveOperationException {
        for (int all = 98; all <= 103; all++) {
            // 9 is a loop of all but 2 steps, as ';' and its b are one each
            String[] more = {String.valueOf(all - 6), "(e (l #7 #8))"};
            both(all > 100, "(; #10 #0)", "(; #10 #1)", more);
            Kit.due("steps of one value", counted(1, "(; #10 #0)", more), all);
            String[] fewer = {String.valueOf(all - 10), "(e (l #7 #8))", "(; #10 #0)", "(; #10 #1)"};
            both(all > 100, "(| #5 #11)", "(| #5 #12)", fewer);
            Kit.due("steps of three values", counted(3, "(| #5 #11)", fewer), all);
        }
    }

    private static long counted(int values, String last, String... more) {
        DoorScan x = language(last, more);
        x.begin(x.number(0) - 1);
        for (int i = 0; i < values; i++) {
            x.next();
        }
        return x.steps();
    }

    /** "that has neither a life in it": also where that is not come to */
    private static void lives() throws ReflectiveOperationException {
        due(true, "(| #0 #8)", "(| #0 #0)", "(c #1)");
        due(false, "(| #0 #0)", "(| #0 #8)", "(c #1)");
        due(true, "(c #0)", "1");
        due(false, "1", "(c #0)");
        due(true, "(@ #8)", "2", "(c #0)");
        due(true, "(^ #8)", "2", "(c #0)");
        due(true, "(| #8 #0)", "2", "(c #0)");
        due(true, "([ #0 #1 #8)", "'a'", "(c #0)");
        due(true, "(i #0 #1 #8)", "1", "(c #0)");
        due(true, "(l #8 #0)", "1", "(c #0)");
        due(true, "(: 0 #9)", "1", "(c #0)", "(! #8)");
        due(true, "(call 0 #8)", "1", "(c #0)", "0=(R #0)");
        due(true, "(call 0 #0 #8)", "2", "(c #0)", "0=(R #0)");
        due(false, "(call 0 #0 #0)", "2", "(c #0)", "0=(R #0)");
    }

    /** "nor calls a procedure that has": also by a procedure that the procedure calls */
    private static void livesOfProcedures() throws ReflectiveOperationException {
        String[] bodies = {"5=(R (c 1))", "0=(R (call 1 #0))", "1=(R (call 2 #0))", "2=(i 1 (R 5) (call 5 #0))",
            "3=(R 5)", "4=(R (call 3 #0))"};
        for (int p = 0; p <= 5; p++) {
            boolean hasLife = p != 3 && p != 4;
            due(hasLife, "(call " + p + " #0)", "1", bodies);
        }
        // another body in its place
        due(false, "(call 0 #0)", "1", "0=(R (c 1))", "0=(R 5)");
        due(true, "(call 0 #0)", "1", "0=(R 5)", "0=(R (c 1))");
        // each body calls the next one, the last one has the life
        String[] far = {"0=(R (call 1 #0))", "1=(R (call 2 #0))", "2=(R (call 3 #0))", "3=(R (call 4 #0))",
            "4=(R (call 5 #0))", "5=(i 1 (R 5) (c 1))"};
        due(true, "(call 0 #0)", "1", far);
        far[5] = "5=(i 1 (R 5) 1)";
        due(false, "(call 0 #0)", "1", far);
    }

    /** "for each expression" */
    private static void eachExpression() throws ReflectiveOperationException {
        for (int other : new int[] {-1, 0, 1, 40, 78, 79}) {
            DoorScan x = new DoorScan();
            DoorScan y = new DoorScan();
            for (int i = 0; i < 80; i++) {
                x.number(i);
                y.number(i == other ? 99 : i);
            }
            Kit.due("isSound() with another value of " + other, isSound(x, y), other == -1);
        }
        Kit.due("isSound() without expressions", isSound(new DoorScan(), new DoorScan()), true);
    }
}
