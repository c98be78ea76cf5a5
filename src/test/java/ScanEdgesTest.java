/** Terms, 'Scanning': each sentence that names an edge, at the edge and one step to either side of it. */
public final class ScanEdgesTest {
    private static final String ALPHABET = "abcdefghijklmnopqrstuvwxyzabcdefghijklmnopqrstuvwxyz12345678";
    private static final String[] SUBJECTS = {"", "a", "abcd", ALPHABET.substring(0, 59), ALPHABET};

    public static void main(String[] args) {
        for (String subject : SUBJECTS) {
            places(subject);
            slices(subject);
        }
        movesBack();
        atFirst();
        newSubjects();
        nextCharacters();
        allPlaces();
        found();
        beginnings();
        leaving();
        leftByErrors();
        goingOnIn();
        Kit.end();
    }

    /** The place that is told from either end: "from the end if it is 0 or less, 0 being that behind all"; or 0. */
    private static int told(int number, int length) {
        long place = number > 0 ? number : length + 1L + number;
        return place >= 1 && place <= length + 1 ? (int) place : 0;
    }

    private static String between(String text, int from, int to) {
        return "'" + text.substring(Math.min(from, to) - 1, Math.max(from, to) - 1) + "'";
    }

    private static int[] numbers(int length) {
        return new int[] {Integer.MIN_VALUE, Integer.MIN_VALUE + 1, -length - 2, -length - 1, -length, 1 - length, -1,
            0, 1, 2, length - 1, length, length + 1, length + 2, length + 3, Integer.MAX_VALUE - 1, Integer.MAX_VALUE};
    }

    /** 'T', 'm' and 'P' from the first place, from the last one, and from one between. */
    private static void places(String subject) {
        int length = subject.length();
        for (int from : new int[] {1, length / 2 + 1, length + 1}) {
            for (int number : numbers(length)) {
                String head = "(s '" + subject + "' (; (T " + from + ") ";
                int goal = told(number, length);
                String want = goal == 0 ? "f" : between(subject, from, goal) + " f";
                Kit.values(want, head + "(T " + number + ")))");
                Kit.values(goal == 0 ? from + " f" : goal + " " + from + " f",
                        head + "(| (& (T " + number + ") p) p)))");
                long moved = (long) from + number;
                boolean isThere = moved >= 1 && moved <= length + 1;
                Kit.values(isThere ? between(subject, from, (int) moved) + " f" : "f", head + "(m " + number + ")))");
                Kit.values(isThere ? moved + " " + from + " f" : from + " f",
                        head + "(| (& (m " + number + ") p) p)))");
                Kit.values(goal == from ? from + " f" : "f", head + "(P " + number + ")))");
            }
        }
    }

    /** '[': "between the places b and c, the lower one first, ...; it fails if there is no such place" */
    private static void slices(String text) {
        int length = text.length();
        for (int b : numbers(length)) {
            for (int c : numbers(length)) {
                int from = told(b, length);
                int to = told(c, length);
                Kit.values(from == 0 || to == 0 ? "f" : between(text, from, to) + " f",
                        "([ '" + text + "' " + b + " " + c + ")");
            }
        }
        Kit.values("'34' '3' '2' f", "([ 1234 3 (| 5 (| 4 2)))");
    }

    /** "as they are gone back into, the place is again what it was" */
    private static void movesBack() {
        Kit.values("2 3 1 f", "(s 'abc' (| (& (T (t 2 3)) p) p))");
        Kit.values("2 3 4 1 f", "(s 'abc' (| (& (m (t 1 9)) p) p))");
        Kit.values("3 2 1 f", "(s 'abc' (| (& (T 2) (| (& (T 3) p) p)) p))");
        // the a of a move has the place as it was ahead of it
        Kit.values("'a' 'a' f", "(s 'abc' (T (| 2 (+ p 1))))");
        Kit.values("1 4 1 f", "(s 'abc' (| (& (m 0) p) (| (& (m 3) p) p)))");
        // what is moved in between for good is undone by those that are gone back into
        Kit.values("3 1 f", "(s 'abc' (| (& (T 2) (; (T 3) p)) p))");
    }

    /** "at first, and for a new run, they are the empty text and 1" */
    private static void atFirst() {
        Kit.values("'' f", "q");
        Kit.values("1 f", "p");
        DoorScan x = new DoorScan();
        int error = Kit.put(x, "(s 'abc' (& (T 3) (| 1 v0)))");
        int plain = Kit.put(x, "(| (T 1) (| q p))");
        x.begin(error);
        Kit.due("subjectLength() at first", x.subjectLength(), 0);
        Kit.due("place() at first", x.place(), 1);
        Kit.due("a value and an error", Kit.row(x, 2), "1 !x");
        x.begin(plain);
        Kit.due("subjectLength() of a new run", x.subjectLength(), 0);
        Kit.due("place() of a new run", x.place(), 1);
        Kit.due("values of a new run", Kit.row(x, 4), "'' '' 1 f");
        x.begin(Kit.put(x, "(| (s 'abcd' (| (T 2) v7)) 1)"));
        x.next();
        x.begin(plain);
        Kit.due("values of a new run behind another one's first value", Kit.row(x, 4), "'' '' 1 f");
        Kit.due("handed", x.countHanded(Kit.put(x, "(~ '' (| q (T 0)))"), 20), 2);
    }

    /** 's': "for each value of a as a text, this is the subject, and the place 1" */
    private static void newSubjects() {
        Kit.values("'' f", "(s '' q)");
        Kit.values("'' f", "(s '' (T 1))");
        Kit.values("'" + ALPHABET + "' f", "(s '" + ALPHABET + "' q)");
        Kit.values("'ab' 1 '5' 1 f", "(s (| 'ab' (| (c 1) 5)) (| q p))");
        Kit.values("'-2147483648' f", "(s -2147483648 (T 12))");
        Kit.values("f", "(s -2147483648 (T 13))");
        Kit.values("1 3 f", "(s 'abc' (; (T 3) (| (s 'abc' p) p)))");
        Kit.values("'b' 'bc' f", "(s 'abc' (s (& (T 2) (m (t 1 2))) q))");
    }

    /** 'A', 'M': "if that is in the text a", "one at least"; there is no next character behind all. */
    private static void nextCharacters() {
        for (int place = 1; place <= 5; place++) {
            String head = "(s 'abca' (; (T " + place + ") ";
            boolean isA = place == 1 || place == 4;
            Kit.values(isA ? place + 1 + " f" : "f", head + "(A 'a')))");
            Kit.values(isA ? place + 1 + " f" : "f", head + "(A 'xay')))");
            Kit.values(isA ? place + 1 + " f" : "f", head + "(M 'a')))");
            Kit.values(place < 5 ? place + 1 + " f" : "f", head + "(A 'abc')))");
            Kit.values(place < 5 ? "5 f" : "f", head + "(M 'abc')))");
            Kit.values(place < 4 ? (place < 3 ? "3 f" : "f") : place < 5 ? "5 f" : "f", head + "(M 'ab')))");
            Kit.values("f", head + "(A '')))");
            Kit.values("f", head + "(M '')))");
            Kit.values("f", head + "(A 'xyz')))");
            Kit.values(place + " f", head + "(; (! (A 'abc')) p)))");
            Kit.values(place + " f", head + "(; (! (M 'abc')) p)))");
        }
        Kit.values("61 f", "(s '" + ALPHABET + "' (M '" + ALPHABET + "'))");
        Kit.values("61 f", "(s '" + ALPHABET + "' (; (T 60) (A 8)))");
        Kit.values("f", "(s '" + ALPHABET + "' (; (T 61) (A '" + ALPHABET + "')))");
        Kit.values("2 4 f", "(s 1234 (M (| 1 (| 0 321))))");
        Kit.values("f", "(A 'a')");
        Kit.values("f", "(M 'a')");
    }

    /** 'U': "all places from this one on, whose character is"; that behind all has none. */
    private static void allPlaces() {
        String[] due = {"1 4 f", "4 f", "4 f", "4 f", "f"};
        for (int place = 1; place <= 5; place++) {
            Kit.values(due[place - 1], "(s 'abca' (; (T " + place + ") (U 'a')))");
            Kit.values("f", "(s 'abca' (; (T " + place + ") (U '')))");
            StringBuilder all = new StringBuilder();
            for (int i = place; i <= 4; i++) {
                all.append(i).append(' ');
            }
            Kit.values(all + "f", "(s 'abca' (; (T " + place + ") (U 'cab')))");
        }
        Kit.values("f", "(U 'a')");
        Kit.values("60 f", "(s '" + ALPHABET + "' (U 8))");
        Kit.values("1 27 f", "(s '" + ALPHABET + "' (U 'a'))");
        // from the place on that it was when a had its value
        Kit.values("4 4 4 f", "(s 'ababa' (& (U 'a') (; (T 4) p)))");
        Kit.values("5 5 f", "(s 'ababa' (& (T 3) (& (U 'a') (| (& (T 5) p) (= 5 p)))))");
    }

    /** 'F': "at which the text a begins, the empty one at each of them, that behind all included" */
    private static void found() {
        String[] due = {"1 3 f", "3 f", "3 f", "f", "f"};
        for (int place = 1; place <= 5; place++) {
            String head = "(s 'abab' (; (T " + place + ") ";
            Kit.values(due[place - 1], head + "(F 'ab')))");
            StringBuilder all = new StringBuilder();
            for (int i = place; i <= 5; i++) {
                all.append(i).append(' ');
            }
            Kit.values(all + "f", head + "(F '')))");
            Kit.values(place == 1 ? "1 f" : "f", head + "(F 'abab')))");
            Kit.values("f", head + "(F 'ababa')))");
            Kit.values(place <= 2 ? "2 f" : "f", head + "(F 'ba')))");
            Kit.values(place <= 4 ? (place <= 2 ? "2 4 f" : "4 f") : "f", head + "(F 'b')))");
        }
        Kit.values("1 f", "(F '')");
        Kit.values("f", "(F 'a')");
        Kit.values("1 f", "(s '" + ALPHABET + "' (F '" + ALPHABET + "'))");
        Kit.values("60 61 f", "(s '" + ALPHABET + "' (; (T 60) (F '')))");
        Kit.values("1 2 3 4 5 1 f", "(s 'aaab' (F (| '' 'aaab')))");
    }

    /** 'H': "the place behind the text a, if it begins here" */
    private static void beginnings() {
        String subject = "abab";
        for (int place = 1; place <= 5; place++) {
            for (String text : new String[] {"", "a", "b", "ab", "ba", "abab", "bab", "ababa", "aba", "babab"}) {
                Kit.values(subject.startsWith(text, place - 1) ? place + text.length() + " f" : "f",
                        "(s 'abab' (; (T " + place + ") (H '" + text + "')))");
            }
        }
        Kit.values("1 f", "(H '')");
        Kit.values("f", "(H 'a')");
        Kit.values("61 f", "(s '" + ALPHABET + "' (H '" + ALPHABET + "'))");
        Kit.values("f", "(s '" + ALPHABET.substring(0, 59) + "' (H '" + ALPHABET + "'))");
        Kit.values("1 3 1 f", "(s 'abc' (| p (| (H 'ab') p)))");
    }

    /** "Whatever leaves b ... has the subject and the place as they were outside as the scanning began" */
    private static void leaving() {
        String[] ways = {"(& (s 'xyz' (; (T 3) 5)) X)", "(; (s 'xyz' (; (T 3) 5)) X)",
            "(| (s 'xyz' (; (T 3) (< 2 1))) X)", "(; (e 1 (s 'xyz' (; (T 3) b))) X)",
            "(e 1 (s 'xyz' (; (T 3) (b X))))", "(; (e 1 (s 'xyz' (; (T 3) n))) X)",
            "(; (e (s 'xyz' (; (T 3) n)) 5) X)", "(; (w (s 'xyz' (; (T 3) b))) X)",
            "(; (: 3 0) (; (w (< (: 3 (+ v3 1)) 3) (s 'xyz' (; (T 3) n))) X))",
            "(; (e 1 (s 'xyz' (; (T 3) (s 'uv' (; (T 2) b))))) X)",
            "(& (call 0 1) X)", "(& (call 1 1) X)", "(| (call 2 1) X)", "(| (call 3 1) X)", "(| (call 4 1) X)"};
        String[] bodies = {"0=(s 'xyz' (; (T 3) (S 5)))", "1=(s 'xyz' (; (T 3) (R 5)))", "2=(s 'xyz' (; (T 3) f))",
            "3=(s 'xyz' (; (T 3) (R (< 2 1))))", "4=(s 'xyz' (; (T 3) 5))"};
        for (String way : ways) {
            Kit.values("'ab' 2 f", "(s 'ab' (; (T 2) " + way.replace("X", "(| q p)") + "))", bodies);
            Kit.values("'' 1 f", way.replace("X", "(| q p)"), bodies);
            // as the scanning began: what its a moves for good is outside
            Kit.values("3 f", "(s 'ab' (; (T 2) " + moving(way).replace("X", "p") + "))", moving(bodies[0]),
                    moving(bodies[1]), moving(bodies[2]), moving(bodies[3]), moving(bodies[4]));
        }
    }

    private static String moving(String scanning) {
        return scanning.replace("'xyz'", "(; (T 3) 'xyz')");
    }

    /** An error ends the run, and nothing else is done. */
    private static void leftByErrors() {
        DoorScan x = new DoorScan();
        x.begin(Kit.put(x, "(s 'abc' (; (T 3) (| 5 v0)))"));
        Kit.due("a value", Kit.row(x, 1), "5");
        Kit.due("subjectLength() behind a value", x.subjectLength(), 0);
        Kit.due("place() behind a value", x.place(), 1);
        Kit.due("an error", Kit.row(x, 1), "!x");
        Kit.due("next() behind it", x.next(), 'e');
        Kit.due("subjectLength() behind an error", x.subjectLength(), 3);
        Kit.due("place() behind an error", x.place(), 3);
    }

    /** "as it is gone back into, those of inside are there again as they were" */
    private static void goingOnIn() {
        Kit.values("1 9 2 9 3 9 f", "(& (: 0 (s 'abc' (| p (& (T 2) (| p (& (T 3) p)))))) (| v0 9))");
        Kit.values("3 'abc' 'abc' f", "(s 'xyz' (& (: 0 (s 'abc' (; (T 3) (| p (| q q))))) (; (T 2) v0)))");
        Kit.values("3 3 2 f", "(s 'xyz' (; (T 2) (| (s 'abc' (; (T 3) (| p p))) p)))");
        Kit.values("2 1 1 f", "(s 'xyz' (| (s 'abc' (| (& (T 2) p) p)) p))");
        Kit.values("'u' 'b' 'x' f", "(s 'x' (| (s 'ab' (| (s 'uv' (m 1)) (; (T 2) (m 1)))) (m 1)))");
        Kit.values("2 3 f", "(s 'vw' (& (: 0 (call 0 1)) (; (T 3) v0)))",
                "0=(s 'abc' (; (T 2) (; (S p) (; (T 3) (S p)))))");
        Kit.values("2 3 2 f", "(s 'vw' (& (: 0 (call 0 1)) (; (T 3) v0)))",
                "0=(s 'abc' (; (T 2) (; (S (| p (& (T 3) p))) (S p))))");
        Kit.values("3 1 4 1 f", "(s 'vw' (& (: 0 (call 0 1)) (| v0 p)))",
                "0=(s 'abc' (; (T 2) (S (| (; (m 1) p) (; (m 1) p)))))");
    }
}
