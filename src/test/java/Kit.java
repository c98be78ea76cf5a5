import java.util.ArrayList;
import java.util.List;

/** What the tests share: a notation for expressions, rows of values, and the count of wrong answers. */
final class Kit {
    interface Call {
        Object answer();
    }

    private static int wrong;

    private Kit() {
    }

    static void due(String what, Object got, Object want) {
        if (!String.valueOf(got).equals(String.valueOf(want))) {
            wrong++;
            System.out.println(what + " answered " + got + ", due is " + want);
        }
    }

    /** The name of what the call throws, without package and the word Exception; or its answer. */
    static String answer(Call call) {
        try {
            return String.valueOf(call.answer());
        } catch (RuntimeException e) {
            return e.getClass().getSimpleName().replace("Exception", "");
        }
    }

    static void throwing(String what, String want, Call call) {
        due(what, answer(call), want);
    }

    static void end() {
        if (wrong != 0) {
            System.exit(1);
        }
    }

    /**
     * Makes an expression: a number, a 'text', a variable v0, or (kind parts), where _ is a part that is not told;
     * (: 0 a) and (u 0 a) are assignments, (x 0 1) and (y 0 1) exchanges, (call 0 a b) calls, #4 an earlier one.
     */
    static int put(DoorScan x, String notation) {
        return new Reader(notation).read(x);
    }

    /** A language with bodies, told as "0=notation". */
    static DoorScan language(String... bodies) {
        DoorScan x = new DoorScan();
        for (String body : bodies) {
            x.define(body.charAt(0) - '0', put(x, body.substring(2)));
        }
        return x;
    }

    /** The next values of the run that is begun, then f or ! and the error, if they come. */
    static String row(DoorScan x, int most) {
        StringBuilder row = new StringBuilder();
        for (int i = 0; i < most; i++) {
            char answer = x.next();
            if (i > 0) {
                row.append(' ');
            }
            if (answer == 'f') {
                return row.append('f').toString();
            }
            if (answer == 'e') {
                return row.append('!').append(x.error()).toString();
            }
            row.append(shown(x));
        }
        return row.toString();
    }

    static String shown(DoorScan x) {
        switch (x.kind()) {
            case 'n':
                return String.valueOf(x.value());
            case 't':
                return "'" + lastText(x) + "'";
            default:
                return "c";
        }
    }

    static String lastText(DoorScan x) {
        StringBuilder text = new StringBuilder();
        for (int i = 0; i < x.length(); i++) {
            text.append(x.charAt(i));
        }
        return text.toString();
    }

    /** Begins a run of the notation and compares its first values; by the second way too, if it has no lives. */
    static void values(String want, String notation, String... bodies) {
        DoorScan x = language(bodies);
        int expression = put(x, notation);
        int most = want.split(" ").length;
        x.begin(expression);
        due(notation, row(x, most), want);
        String all = notation + String.join(" ", bodies);
        if (!all.contains("(c ") && !want.contains("!l") && !want.contains("!d")) {
            handed(x, expression, want);
        }
        due("isSound() with " + notation, x.isSound(), true);
    }

    private static void handed(DoorScan x, int expression, String want) {
        List<String> due = new ArrayList<>();
        for (String value : want.split(" ")) {
            if (!value.equals("f") && !value.startsWith("!")) {
                due.add(value);
            }
        }
        int most = Math.max(1, want.split(" ").length);
        due("countHanded of " + want, x.countHanded(expression, most), due.size());
        for (int i = 0; i < due.size(); i++) {
            int index = i;
            due("handed " + i + " of " + want, answer(() -> x.handed(expression, index)), asNumber(due.get(i)));
        }
    }

    /** What handed answers for a value: a text too is a number, if it can be used as one. */
    private static String asNumber(String value) {
        if (!value.startsWith("'")) {
            return value;
        }
        String text = value.substring(1, value.length() - 1);
        return text.matches("-?[0-9]{1,9}") ? String.valueOf(Integer.parseInt(text)) : "UnsupportedOperation";
    }

    /** Reads the notation. */
    private static final class Reader {
        private final String notation;
        private int at;

        Reader(String notation) {
            this.notation = notation;
        }

        private String word() {
            while (at < notation.length() && notation.charAt(at) == ' ') {
                at++;
            }
            int start = at;
            if (notation.charAt(at) == '\'') {
                at = notation.indexOf('\'', at + 1) + 1;
                return notation.substring(start, at);
            }
            if (notation.charAt(at) == '(' || notation.charAt(at) == ')') {
                at++;
                return notation.substring(start, at);
            }
            while (at < notation.length() && " ()".indexOf(notation.charAt(at)) < 0) {
                at++;
            }
            return notation.substring(start, at);
        }

        int read(DoorScan x) {
            return read(x, word());
        }

        private int read(DoorScan x, String word) {
            if (word.equals("_")) {
                return -1;
            }
            if (word.startsWith("#")) {
                return Integer.parseInt(word.substring(1));
            }
            if (word.startsWith("'")) {
                for (int i = 1; i < word.length() - 1; i++) {
                    x.type(word.charAt(i));
                }
                return x.text();
            }
            if (word.length() == 2 && word.charAt(0) == 'v') {
                return x.variable(word.charAt(1) - '0');
            }
            if (word.length() == 1 && "qpnfRb".contains(word)) {
                return x.make(word.charAt(0), -1, -1, -1);
            }
            if (!word.equals("(")) {
                return x.number(Integer.parseInt(word));
            }
            return readParts(x, word());
        }

        private int readParts(DoorScan x, String kind) {
            List<Integer> parts = new ArrayList<>();
            int direct = kind.equals(":") || kind.equals("u") || kind.equals("call") ? 1
                    : kind.equals("x") || kind.equals("y") ? 2 : 0;
            for (String word = word(); !word.equals(")"); word = word()) {
                parts.add(parts.size() < direct ? Integer.valueOf(word) : Integer.valueOf(read(x, word)));
            }
            while (parts.size() < 3) {
                parts.add(-1);
            }
            if (kind.equals("call")) {
                return x.call(parts.get(0), parts.get(1), parts.get(2));
            }
            if (direct == 1) {
                return x.assign(kind.charAt(0), parts.get(0), parts.get(1));
            }
            if (direct == 2) {
                return x.exchange(kind.charAt(0), parts.get(0), parts.get(1));
            }
            return x.make(kind.charAt(0), parts.get(0), parts.get(1), parts.get(2));
        }
    }
}
