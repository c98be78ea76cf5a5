/**
 * Many programs that are put together by a row of numbers which is always the same: no call throws what it may not,
 * both ways find the same values, and whatever is asked of a run fits together.
 */
public final class RandomTest {
    private static final String WITH_A = "r!TmPAMUFHSR";
    private static final String WITH_AB = "|&;t+-*<=.~ls|&;te";
    private static long state = 20261119;

    public static void main(String[] args) {
        for (int i = 0; i < 1500; i++) {
            program(i, i % 3 == 0);
        }
        Kit.end();
    }

    private static int below(int bound) {
        state = state * 6364136223846793005L + 1442695040888963407L;
        return (int) ((state >>> 33) % bound);
    }

    private static char one(String of) {
        return of.charAt(below(of.length()));
    }

    private static void program(int number, boolean hasLives) {
        DoorScan x = new DoorScan();
        int count = 0;
        for (int i = 0; i < 6; i++) {
            x.type(one("ab1"));
            count = (i < 3 ? x.text() : x.number(below(6) - 1)) + 1;
        }
        count = x.variable(0) + 1;
        for (int i = 0; i < 40; i++) {
            count = add(x, count, hasLives) + 1;
        }
        for (int i = 0; i < 3; i++) {
            x.define(i, below(count));
        }
        for (int i = 0; i < 8; i++) {
            check(x, number, count - 1 - below(Math.min(count, 15)), hasLives);
        }
        Kit.due("isSound() of program " + number, x.isSound(), true);
    }

    private static int add(DoorScan x, int count, boolean hasLives) {
        int a = part(count);
        int b = part(count);
        switch (below(hasLives ? 14 : 11)) {
            case 0:
                return x.variable(below(3));
            case 1:
                return x.assign(one(":u"), below(3), a);
            case 2:
                return x.call(below(3), a, below(2) == 0 ? -1 : b);
            case 3:
                return x.make(one("qpn"), -1, -1, -1);
            case 4:
                return x.make(one("bR"), below(2) == 0 ? -1 : a, -1, -1);
            case 5:
                return x.make(one("ew"), a, below(2) == 0 ? -1 : b, -1);
            case 6:
                return x.make(one("i["), a, b, part(count));
            case 7:
                return x.make(one(WITH_A), a, -1, -1);
            case 11:
                return x.make('c', a, -1, -1);
            case 12:
                return x.make('@', a, -1, -1);
            case 13:
                return x.make('^', a, -1, -1);
            default:
                return x.make(one(WITH_AB), a, b, -1);
        }
    }

    private static int part(int count) {
        return below(3) == 0 ? below(count) : count - 1 - below(Math.min(count, 8));
    }

    private static void check(DoorScan x, int number, int expression, boolean hasLives) {
        String what = "program " + number + ", expression " + expression;
        x.begin(expression);
        long before = x.steps();
        int[] row = new int[20];
        int found = 0;
        char last = 'v';
        while (found < 20 && (last = x.next()) == 'v') {
            char kind = x.kind();
            String value = Kit.answer(() -> x.value());
            String length = Kit.answer(() -> x.length());
            Kit.due(what + ": a life has no length", length.equals("UnsupportedOperation"), kind == 'c');
            Kit.due(what + ": a number has a value", kind == 'n' && value.equals("UnsupportedOperation"), false);
            row[found] = value.equals("UnsupportedOperation") ? Integer.MIN_VALUE : x.value();
            found++;
        }
        boolean isShort = x.steps() - before < 900;
        Kit.due(what + ": an error has a chain", x.trace() > 0, last == 'e');
        if (last != 'v') {
            Kit.throwing(what + ": no value behind the last", "NoSuchElement", () -> x.kind());
        }
        Kit.due(what + ": the place is in the subject", x.place() >= 1 && x.place() <= x.subjectLength() + 1, true);
        if (isShort && !hasLives && !(last == 'e' && x.error() == 'd')) {
            int handed = x.countHanded(expression, 20);
            for (int i = 0; i < handed && i < found; i++) {
                int index = i;
                int value = row[i];
                Kit.due(what + ": value " + i, Kit.answer(() -> x.handed(expression, index)),
                        value == Integer.MIN_VALUE ? "UnsupportedOperation" : String.valueOf(value));
            }
            Kit.due(what + ": as many values, or less if too many are open", handed <= found, true);
        }
    }
}
