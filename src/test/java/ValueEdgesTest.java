/**
 * Terms, 'Expressions', 'Values and going back' and 'Kinds with values': each sentence that names an edge, at the edge
 * and one step to either side of it.
 */
public final class ValueEdgesTest {
    private static final String TEN = "1234567890";
    private static final String FIFTY = TEN.repeat(5);

    public static void main(String[] args) {
        wrapping();
        longestTexts();
        numbersAsTexts();
        textsAsNumbers();
        needingNumbers();
        needingTexts();
        eachVariable();
        beginningAnew();
        bounded();
        countings();
        divisions();
        comparisons();
        firstValues();
        rounds();
        choices();
        assignments();
        exchanges();
        Kit.end();
    }

    /** "ints that wrap around" */
    private static void wrapping() {
        int[] edges = {Integer.MIN_VALUE, Integer.MIN_VALUE + 1, -65536, -46341, -46340, -1, 0, 1, 46340, 46341, 65535,
            65536, Integer.MAX_VALUE - 1, Integer.MAX_VALUE};
        for (int a : edges) {
            Kit.values(a + " f", String.valueOf(a));
            for (int b : edges) {
                Kit.values(a + b + " f", "(+ " + a + " " + b + ")");
                Kit.values(a - b + " f", "(- " + a + " " + b + ")");
                Kit.values(a * b + " f", "(* " + a + " " + b + ")");
                Kit.values(b == 0 ? "!z" : a / b + " f", "(/ " + a + " " + b + ")");
            }
        }
    }

    /** "texts of at most 60 characters", and '.': "error 'o' if this is too long" */
    private static void longestTexts() {
        for (int length = 58; length <= 60; length++) {
            String text = (FIFTY + TEN).substring(0, length);
            Kit.values("'" + text + "' f", "'" + text + "'");
            Kit.values("'" + text + "' f", "(. '" + text + "' '')");
            Kit.values("'" + text + "' f", "(. '' '" + text + "')");
            Kit.values(length < 60 ? "'" + text + "a' f" : "!o", "(. '" + text + "' 'a')");
            Kit.values(length < 60 ? "'a" + text + "' f" : "!o", "(. 'a' '" + text + "')");
            Kit.values(length < 60 ? "'" + text + "5' f" : "!o", "(. '" + text + "' 5)");
            Kit.values(length < 59 ? "'-7" + text + "' f" : "!o", "(. -7 '" + text + "')");
            Kit.values(length < 59 ? "'" + text + "ab' f" : "!o", "(. (. '" + text + "' 'a') 'b')");
        }
        Kit.values("'" + FIFTY.substring(1) + "-2147483648' f", "(. '" + FIFTY.substring(1) + "' -2147483648)");
        Kit.values("!o", "(. '" + FIFTY + "' -2147483648)");
        Kit.values("'" + FIFTY + "2147483647' f", "(. '" + FIFTY + "' 2147483647)");
        Kit.values("!o", "(. '" + FIFTY + FIFTY.substring(0, 10) + "' '" + FIFTY + TEN + "')");
        Kit.values("'a' 'ab' !o", "(. 'a' (| '' (| 'b' '" + FIFTY + TEN + "')))");
    }

    /** "a number as its decimal text, with - if it is less than 0" */
    private static void numbersAsTexts() {
        for (int n : new int[] {Integer.MIN_VALUE, -1000000000, -999999999, -10, -9, -1, 0, 1, 9, 10, 99, 100,
            999999999, 1000000000, Integer.MAX_VALUE}) {
            String text = String.valueOf(n);
            Kit.values("'" + text + "' f", "(. " + n + " '')");
            Kit.values("'" + text + "' f", "(~ " + n + " '" + text + "')");
            Kit.values("'" + text + "' f", "(~ '" + text + "' " + n + ")");
            Kit.values("'" + text + "' f", "(s " + n + " q)");
            DoorScan x = new DoorScan();
            x.begin(x.number(n));
            x.next();
            Kit.due("the text of " + n, Kit.lastText(x), text);
            Kit.throwing("behind its last character", "IndexOutOfBounds", () -> x.charAt(text.length()));
        }
        Kit.values("f", "(~ 0 '-0')");
        Kit.values("f", "(~ 1 '+1')");
        Kit.values("f", "(~ 1 '01')");
    }

    /** "a text as a number if it has 1 to 9 digits, perhaps with - ahead, and nothing else" */
    private static void textsAsNumbers() {
        for (String text : new String[] {"0", "9", "00", "12345678", "123456789", "999999999", "000000000",
            "000000001"}) {
            number(text, Integer.parseInt(text));
            number("-" + text, -Integer.parseInt(text));
        }
        for (String text : new String[] {"", "-", "--", "--1", "1-", "-1-", "+1", "+", " ", "1 ", " 1", "- 1", "1 1",
            "1.0", "1,", "1e1", "0x1", "a", "1a", "a1", "/", ":", "1/", "1:", "/1", ":1", "0000000000", "0000000001",
            "1000000000", "1234567890", "2147483647", "2147483648", "99999999999", FIFTY, "12345678-", "12345678a",
            "a12345678"}) {
            noNumber(text);
            noNumber("-" + text);
        }
    }

    private static DoorScan begun(String notation) {
        DoorScan x = new DoorScan();
        x.begin(put(x, notation));
        x.next();
        return x;
    }

    /** Makes a text of which the notation could not have all characters. */
    private static int put(DoorScan x, String text) {
        for (char letter : text.toCharArray()) {
            x.type(letter);
        }
        return x.assign(':', 3, x.text());
    }

    private static void number(String text, int want) {
        DoorScan x = begun(text);
        Kit.due("value() of " + text, x.value(), want);
        Kit.due("variableNow of " + text, x.variableNow(3), want);
        Kit.due("handed of " + text, x.handed(0, 0), want);
        Kit.due("its kind", x.kind(), 't');
        Kit.due("its length", x.length(), text.length());
        x.begin(x.make('+', 0, x.number(0), -1));
        Kit.due(text + " in a sum", Kit.row(x, 2), want + " f");
    }

    private static void noNumber(String text) {
        DoorScan x = begun(text);
        Kit.throwing("value() of " + text, "UnsupportedOperation", () -> x.value());
        Kit.throwing("variableNow of " + text, "UnsupportedOperation", () -> x.variableNow(3));
        Kit.throwing("handed of " + text, "UnsupportedOperation", () -> x.handed(0, 0));
        Kit.due("its length", x.length(), text.length());
        x.begin(x.make('+', 0, x.number(0), -1));
        Kit.due(text + " in a sum", Kit.row(x, 1), "f");
    }

    /** "An expression that needs a number ... fails for a value that is none", and may go on with the next one. */
    private static void needingNumbers() {
        for (String none : new String[] {"'a'", "''", "'-'", "'1234567890'", "(c 1)"}) {
            for (String kind : new String[] {"+", "-", "*", "/", "<", "=", "t"}) {
                String want = kind.equals("+") ? "4 f" : kind.equals("-") ? "0 f" : kind.equals("*") ? "4 f"
                        : kind.equals("/") ? "1 f" : kind.equals("<") ? "f" : "2 f";
                Kit.values(want, "(" + kind + " (| " + none + " 2) 2)");
                Kit.values(want, "(" + kind + " 2 (| " + none + " 2))");
            }
            Kit.values("f", "(l 5 " + none + ")");
            Kit.values("5 f", "(l 5 (| " + none + " 1))");
            for (String kind : new String[] {"T", "m"}) {
                Kit.values("f", "(s 'abc' (" + kind + " " + none + "))");
                Kit.values("'a' f", "(s 'abc' (" + kind + " (| " + none + " " + (kind.equals("T") ? 2 : 1) + ")))");
            }
            Kit.values("f", "(s 'abc' (P " + none + "))");
            Kit.values("1 f", "(s 'abc' (P (| " + none + " 1)))");
            Kit.values("f", "([ 'abc' " + none + " 1)");
            Kit.values("f", "([ 'abc' 1 " + none + ")");
            Kit.values("'a' f", "([ 'abc' (| " + none + " 2) 1)");
            Kit.values("'a' f", "([ 'abc' 1 (| " + none + " 2))");
        }
    }

    /** "needs ... a text fails for a value that is none": only a life is none, as a number is used as one. */
    private static void needingTexts() {
        for (String kind : new String[] {".", "~"}) {
            String want = kind.equals(".") ? "'77' f" : "'7' f";
            Kit.values(want, "(" + kind + " (| (c 1) 7) 7)");
            Kit.values(want, "(" + kind + " 7 (| (c 1) 7))");
            Kit.values("f", "(" + kind + " (c 1) (c 1))");
        }
        Kit.values("'7' f", "(s (| (c 1) 7) q)");
        Kit.values("'7' f", "([ (| (c 1) 7) 1 2)");
        for (String kind : new String[] {"A", "M", "U", "F", "H"}) {
            String want = kind.equals("U") || kind.equals("F") ? "1 f" : "2 f";
            for (int place = 1; place <= 3; place++) {
                Kit.values("f", "(s 78 (; (T " + place + ") (" + kind + " (c 1))))");
            }
            Kit.values(want, "(s 78 (" + kind + " (| (c 1) 7)))");
        }
    }

    /** "the variables 0 to 7", each of its own */
    private static void eachVariable() {
        StringBuilder all = new StringBuilder("v0");
        for (int v = 1; v <= 7; v++) {
            all.insert(0, "(| ").append(" v" + v + ")");
        }
        for (int v = 0; v <= 7; v++) {
            Kit.values("!x", "v" + v);
            Kit.values("9 9 f", "(| (: " + v + " 9) v" + v + ")");
            Kit.values("!x", "(; (: " + (7 - v) + " 9) v" + v + ")");
            StringBuilder set = new StringBuilder(all);
            StringBuilder want = new StringBuilder();
            for (int i = 0; i <= 7; i++) {
                set.insert(0, "(; (: " + i + " " + (i == v ? 5 : i + 10) + ") ").append(")");
                want.append(i == v ? 5 : i + 10).append(' ');
            }
            Kit.values(want + "f", set.toString());
        }
    }

    /** "the second one is begun anew for each value of the first one, which is gone back to if the second one ..." */
    private static void beginningAnew() {
        Kit.values("11 12 21 22 f", "(; (: 0 0) (+ (: 0 (| 10 20)) (t 1 2)))");
        Kit.values("10 20 f", "(; (: 0 5) (& (: 0 (| 10 20)) v0))");
        Kit.values("f", "(+ (t 1 3) (< 2 1))");
        Kit.values("f", "(+ (< 2 1) v0)");
        Kit.values("!x", "(+ 1 v0)");
        Kit.values("3 f", "(; (: 0 0) (; (e (+ (t 1 3) (& (: 0 (+ v0 1)) (< 2 1)))) v0))");
        Kit.values("6 f", "(; (: 0 0) (; (e ([ 'abc' (t 1 3) (| 1 (& (: 0 (+ v0 2)) (< 2 1))))) v0))");
        Kit.values("4 f", "(; (: 0 0) (; (e ([ (| 'abc' 'de') (t 1 2) (& (: 0 (+ v0 1)) (< 2 1)))) v0))");
        Kit.values("'15' '16' '25' '26' 6 f", "(| (. (t 1 2) (: 0 (| 5 6))) v0)");
        Kit.values("'a' '' 'ab' '' 'a' 'b' f", "([ 'abc' (t 1 2) (| 2 (| 1 3)))");
    }

    /** "A part that is bounded gives its first value alone, ...; whatever it has assigned or moved stays then." */
    private static void bounded() {
        Kit.values("5 f", "(; (u 0 (| 5 6)) v0)");
        Kit.values("2 f", "(s 'abc' (; (T (| 2 3)) p))");
        Kit.values("8 f", "(; (| 1 v0) 8)");
        Kit.values("5 f", "(| (! (u 0 (| 5 6))) v0)");
        Kit.values("2 f", "(s 'abc' (| (! (T (| 2 3))) p))");
        Kit.values("f", "(! (| 1 v0))");
        Kit.values("5 f", "(i (u 0 (| 5 6)) v0)");
        Kit.values("2 f", "(s 'abc' (i (T (| 2 3)) p))");
        Kit.values("8 f", "(i (| 1 v0) 8 9)");
        Kit.values("5 f", "(| (e 1 (u 0 (| 5 6))) v0)");
        Kit.values("2 f", "(s 'abc' (| (e 1 (T (| 2 3))) p))");
        Kit.values("f", "(e (t 1 2) (| 1 v0))");
        Kit.values("2 f", "(; (: 0 0) (| (w (< (u 0 (+ v0 1)) 3)) v0))");
        Kit.values("3 f", "(s 'abc' (| (w (& (< p 3) (| (m 1) v0))) p))");
        Kit.values("2 f", "(; (: 0 0) (| (w (< v0 2) (u 0 (+ v0 1))) v0))");
        Kit.values("3 f", "(s 'abc' (| (w (< p 3) (| (m 1) v0)) p))");
        Kit.values("3 f", "(s 'abc' (| (call 0 1) p))", "0=(| (T 3) v7)");
        Kit.values("3 3 f", "(s 'abc' (| (& (call 0 1) p) p))", "0=(R (| (T 3) v7))");
        // what is not bounded is undone as it is gone back into
        Kit.values("!x", "(| (e (u 0 5)) v0)");
        Kit.values("1 f", "(s 'abc' (| (e (T 2)) p))");
    }

    /** 't': "the numbers from the one up to the other, none if that is less" */
    private static void countings() {
        int[] edges = {Integer.MIN_VALUE, -2147483600, -1, 0, 1, 7, 2147483600, Integer.MAX_VALUE};
        for (int from : edges) {
            for (long to = from - 3L; to <= from + 3L; to++) {
                if (to == (int) to) {
                    StringBuilder want = new StringBuilder();
                    for (long n = from; n <= to; n++) {
                        want.append(n).append(' ');
                    }
                    Kit.values(want + "f", "(t " + from + " " + to + ")");
                }
            }
        }
        Kit.values("f", "(t 2147483647 -2147483648)");
        Kit.values("-2147483648 -2147483647", "(t -2147483648 2147483647)");
        Kit.values("1 2 2 f", "(t (| 1 2) '2')");
        Kit.values("2 3 2 2 3 4 f", "(t 2 (| 3 (| 1 (| 2 4))))");
    }

    /** '/': "cut towards 0; error 'z' for a division by 0" */
    private static void divisions() {
        for (int a = -7; a <= 7; a++) {
            for (int b = -3; b <= 3; b++) {
                Kit.values(b == 0 ? "!z" : a / b + " f", "(/ " + a + " " + b + ")");
            }
        }
        Kit.values("!z", "(/ 1 '0')");
        Kit.values("!z", "(/ 1 '-0')");
        Kit.values("!z", "(/ '5' '000')");
        Kit.values("f", "(/ '' 0)");
        Kit.values("f", "(/ (c 1) 0)");
        Kit.values("f", "(/ (< 2 1) 0)");
        Kit.values("6 -6 !z", "(/ 6 (| 1 (t -1 0)))");
    }

    /** '<', '=': "if a is less or the same"; '~': "if both are the same texts" */
    private static void comparisons() {
        int[] edges = {Integer.MIN_VALUE, Integer.MIN_VALUE + 1, -1, 0, 1, 2, Integer.MAX_VALUE - 1, Integer.MAX_VALUE};
        for (int a : edges) {
            for (int b : edges) {
                Kit.values(a < b ? b + " f" : "f", "(< " + a + " " + b + ")");
                Kit.values(a == b ? b + " f" : "f", "(= " + a + " " + b + ")");
                Kit.values(a == b ? "'" + b + "' f" : "f", "(~ " + a + " " + b + ")");
            }
        }
        Kit.values("3 f", "(< 2 '03')");
        Kit.values("3 f", "(= '03' '003')");
        String[] texts = {"''", "'a'", "'A'", "'b'", "'ab'", "'aa'", "'ba'", "'aab'", "'0'", "'00'", "'-0'"};
        for (String a : texts) {
            for (String b : texts) {
                Kit.values(a.equals(b) ? b + " f" : "f", "(~ " + a + " " + b + ")");
            }
        }
        String most = FIFTY + TEN;
        Kit.values("'" + most + "' f", "(~ '" + most + "' (. '" + FIFTY + "' '" + TEN + "'))");
        Kit.values("f", "(~ '" + most + "' '" + most.substring(1) + "')");
        Kit.values("f", "(~ '" + most + "' 'a" + most.substring(1) + "')");
        Kit.values("f", "(~ '" + most + "' '" + most.substring(0, 59) + "a')");
    }

    /** 'l': "for each value of b, the first so many values of a" */
    private static void firstValues() {
        String[] wants = {"f", "f", "f", "1 f", "1 2 f", "1 2 3 f", "1 2 3 f", "1 2 3 f"};
        int[] counts = {Integer.MIN_VALUE, -1, 0, 1, 2, 3, 4, Integer.MAX_VALUE};
        for (int i = 0; i < counts.length; i++) {
            Kit.values(wants[i], "(l (t 1 3) " + counts[i] + ")");
            Kit.values(wants[i], "(l (| 1 (| 2 3)) (| -5 (| 0 " + counts[i] + ")))");
        }
        Kit.values("1 2 f", "(l (t 1 3) '2')");
        Kit.values("f", "(l (t 1 3) '-2')");
        Kit.values("1 1 2 3 1 2 f", "(l (t 1 3) (| 1 (| 0 (| 9 2))))");
        Kit.values("f", "(l v0 0)");
        Kit.values("!x", "(l v0 1)");
        Kit.values("f", "(l v0 (< 2 1))");
        Kit.values("f", "(l (< 2 1) 2)");
        Kit.values("1 2 f", "(l (| 1 (| 2 v0)) 2)");
        Kit.values("1 2 !x", "(l (| 1 (| 2 v0)) 3)");
        Kit.values("2 f", "(; (: 0 1) (l v0 (: 0 2)))");
    }

    /** 'r': "the values of a, again and again, till there is none in a round" */
    private static void rounds() {
        Kit.values("f", "(r (< 2 1))");
        Kit.values("1 1 1", "(r 1)");
        Kit.values("1 2 1 2 1", "(r (| 1 2))");
        Kit.values("7 f", "(; (: 0 0) (r (& (< (: 0 (+ v0 1)) 2) 7)))");
        Kit.values("1 2 2 f", "(; (: 0 0) (r (& (: 0 (+ v0 1)) (t v0 2))))");
        Kit.values("7 8 7 f", "(; (: 0 0) (r (& (: 0 (+ v0 1)) (| (& (< v0 3) 7) (& (< v0 2) 8)))))");
    }

    /** ';', '!' and 'i': what comes of a part that fails and of one that does not */
    private static void choices() {
        for (String fails : new String[] {"(< 2 1)", "(! 1)", "(l 1 0)", "(t 1 0)", "(T 2)"}) {
            Kit.values("8 9 f", "(; " + fails + " (| 8 9))");
            Kit.values("0 f", "(! " + fails + ")");
            Kit.values("8 9 f", "(i " + fails + " 7 (| 8 9))");
            Kit.values("f", "(i " + fails + " 7)");
            Kit.values("8 f", "(| " + fails + " 8)");
            Kit.values("8 f", "(| 8 " + fails + ")");
            Kit.values("f", "(| " + fails + " " + fails + ")");
            Kit.values("f", "(& " + fails + " v0)");
            Kit.values("f", "(& 1 " + fails + ")");
        }
        for (String given : new String[] {"0", "''", "'a'", "(t 1 5)", "(! (! 1))", "(T 1)"}) {
            Kit.values("8 9 f", "(; " + given + " (| 8 9))");
            Kit.values("f", "(! " + given + ")");
            Kit.values("8 9 f", "(i " + given + " (| 8 9) v0)");
            Kit.values("8 9 f", "(i " + given + " (| 8 9))");
            Kit.values("f", "(i " + given + " (< 2 1) 7)");
        }
    }

    /** ':' and 'u': "the variable has again what it had, or nothing, ahead of the next value of a" */
    private static void assignments() {
        Kit.values("1 1 2 2 2 f", "(| (& (: 0 (t 1 2)) (| v0 v0)) v0)");
        Kit.values("1 2 !x", "(| (u 0 (t 1 2)) v0)");
        Kit.values("1 2 7 f", "(; (: 0 7) (| (u 0 (t 1 2)) v0))");
        Kit.values("1 !x", "(u 0 (| 1 v0))");
        Kit.values("1 7 f", "(; (: 0 7) (u 0 (| 1 v0)))");
        Kit.values("1 1 f", "(: 0 (| 1 v0))");
        Kit.values("1 7 7 f", "(; (: 0 7) (| (u 0 (u 0 1)) (| v0 v0)))");
        Kit.values("3 7 f", "(; (: 0 7) (| (& (u 0 1) (: 0 3)) v0))");
        Kit.values("f", "(: 0 (< 2 1))");
        Kit.values("7 f", "(; (: 0 7) (| (u 0 (< 2 1)) v0))");
    }

    /** 'x' and 'y': "the values of which must be there, else error 'x': the new value of the first one, once" */
    private static void exchanges() {
        for (String kind : new String[] {"x", "y"}) {
            Kit.values("!x", "(" + kind + " 0 1)");
            Kit.values("!x", "(; (: 0 1) (" + kind + " 0 1))");
            Kit.values("!x", "(; (: 1 1) (" + kind + " 0 1))");
            Kit.values("!x", "(" + kind + " 7 7)");
            Kit.values("5 f", "(; (: 7 5) (" + kind + " 7 7))");
            Kit.values("6 6 5 f", "(; (: 0 5) (; (: 7 6) (& (" + kind + " 0 7) (| v0 (| v0 v7)))))");
            Kit.values("5 f", "(; (: 0 5) (; (: 7 6) (" + kind + " 7 0)))");
        }
        Kit.values("6 6 5 f", "(; (: 0 5) (; (: 7 6) (| (x 0 7) (| v0 v7))))");
        Kit.values("6 5 6 f", "(; (: 0 5) (; (: 7 6) (| (y 0 7) (| v0 v7))))");
    }
}
