import com.sun.management.ThreadMXBean;
import java.lang.management.ManagementFactory;
import java.lang.reflect.Array;
import java.lang.reflect.Field;
import java.lang.reflect.Modifier;
import java.util.ArrayDeque;
import java.util.Collections;
import java.util.IdentityHashMap;
import java.util.Set;

/** All calls of one run live in one room: so many objects and arrays, and so many fields and elements, in all. */
public final class RoomTest {
    private static final long OBJECTS = 600_000;
    private static final long ELEMENTS = 7_300_000;
    /** More askings than a run of 512 calls can have behind those that make what is asked. */
    private static final int ASKINGS = 490;
    /** Leaves of a tree in which everything stays open, with the steps that each takes. */
    private static final String[] LEAVES = {"(u 0 1)", "(| 1 1)", "(y 0 1)", "(u 0 (c 1))", "(u 0 (^ (u 1 (c 1))))",
        "(s 5 1)", "(s 1 (s 2 (s 3 (s 4 (s 5 (s 6 7))))))", "(. (. 'a' 'b') (. 'c' 'd'))", "([ (. 1 2) (. '' 1) 3)",
        "(call 5 1)", "(call 5 (call 5 (call 5 (call 5 (call 5 (call 5 1))))))", "(u 0 (@ (u 1 (c (u 2 1)))))",
        "(& (u 0 (c (| 1 2))) (@ v0))", "(call 4 (. 1 2) (. 3 4))", "(T 1)", "(t 1 1)", "(s 1 (U 1))",
        "(s 12 (t 1 (m 1)))", around("(call 3 _ #7)", 25, "(call 3 #7 #7)"), around("(u 0 (^ _))", 20, "#7"),
        around("(call 4 _ 'abc')", 12, "'x'"), around("(u 0 (. _ 'a'))", 12, "1")};
    private static final int[] STEPS = {2, 2, 1, 2, 4, 3, 13, 7, 8, 4, 19, 6, 7, 11, 2, 3, 4, 6, 105, 41, 73, 37};
    /** Leaves that are gone back into without a step, and the steps of one; some of their numbers come to nothing. */
    private static final String[] GONE_BACK = {around("(F _)", 39, "1"), around("(U _)", 39, "1"),
        around("(t 1 _)", 15, "1"), around("(F (t 1 _))", 12, "1"), "(= 1 (F ''))", "(= 1 (* 1 (F (F (F (F ''))))))",
        "(= 1 (* 1 (t 1 (- 2 (t 1 3)))))", "(call 5 (= 1 (F '')))", "(s '1111' (= 2 (U (T (F '')))))",
        "(l (= 1 (F '')) 2)", "(= 1 (e 1 (b (F ''))))"};
    private static final int[] GONE_BACK_STEPS = {40, 40, 31, 37, 4, 9, 11, 7, 8, 6, 7};

    private static long objects;
    private static long elements;

    public static void main(String[] args) throws IllegalAccessException {
        DoorScan x = new DoorScan();
        count(x);
        Kit.due("a new object takes little", objects < 1000 && elements < 25_000, true);
        for (int i = 0; i < LEAVES.length; i++) {
            everythingStays(LEAVES[i], STEPS[i]);
        }
        for (int i = 0; i < GONE_BACK.length; i++) {
            allGoneBackInto(GONE_BACK[i], GONE_BACK_STEPS[i]);
        }
        withinProcedures();
        nothingStays("(e (r (& (: 0 (c (s 3 4))) (. 1 2))))");
        nothingStays("(e (r (call 4 1 (call 3 2))))");
        nothingStays("(e (r (@ (c (s (. 1 2) (: 0 (T 2)))))))");
        otherCalls();
        Kit.end();
    }

    private static String around(String outer, int times, String inner) {
        String row = inner;
        for (int i = 0; i < times; i++) {
            row = outer.replace("_", row);
        }
        return row;
    }

    /** Each asking makes some thousand steps and gives a value, and all that was begun stays open. */
    private static void everythingStays(String leaf, int steps) throws IllegalAccessException {
        DoorScan x = begun(leaf, steps);
        long before = bytes();
        askAll(x, leaf);
        roomOf(x, "with all of " + leaf + " open", bytes() - before);
    }

    /** Behind that, the last asking goes back through all of it, without a step. */
    private static void allGoneBackInto(String leaf, int steps) throws IllegalAccessException {
        DoorScan x = begun(leaf, steps);
        long before = bytes();
        askAll(x, leaf);
        Kit.due("no more with " + leaf, x.next(), 'f');
        roomOf(x, "with all of " + leaf + " gone back into", bytes() - before);
    }

    private static DoorScan begun(String leaf, int steps) {
        DoorScan x = Kit.language("5=(S v0)", "4=(S (. v0 v1))", "3=(S (c 1))");
        int more = forest(x, Kit.put(x, leaf), steps, 980);
        int one = x.make(';', Kit.put(x, "(S 1)"), more, -1);
        int row = Kit.put(x, "(! 1)");
        for (int i = 1; i <= ASKINGS; i *= 2) {
            row = (ASKINGS & i) == 0 ? row : x.make('&', one, row, -1);
            one = 2 * i > ASKINGS ? one : x.make('&', one, one, -1);
        }
        x.define(0, row);
        x.begin(Kit.put(x, "(s '1' (call 0 1 2))"));
        return x;
    }

    private static void askAll(DoorScan x, String leaf) {
        int values = 0;
        for (int i = 0; i < ASKINGS; i++) {
            values += x.next() == 'v' ? 1 : 0;
        }
        Kit.due("values with " + leaf, values, ASKINGS);
        Kit.due("some thousand steps each with " + leaf, x.steps() > 930L * ASKINGS, true);
    }

    private static void roomOf(DoorScan x, String what, long made) throws IllegalAccessException {
        inRoom(x, what);
        Kit.due("what was given up, too, " + what + ": " + made, made < 8 * ELEMENTS, true);
    }

    /** What is noted of the expressions within all procedures takes its room once for all askings and runs. */
    private static void withinProcedures() throws IllegalAccessException {
        String digits = "'" + "1234567890".repeat(6) + "'";
        String rows = around("(U _)", 20, "(i (< v0 #4) (call 0 (+ v0 1)) (F ''))");
        for (int within = 1; within <= 30; within++) {
            DoorScan x = Kit.language("5=(& (& v1 v2) (& v3 " + within + "))", "0=(S " + rows + ")");
            int row = Kit.put(x, "(s " + digits + " (= 77 (* 1 (call 0 1))))");
            long before = bytes();
            for (int i = 0; i < 10; i++) {
                x.begin(row);
                Kit.due("no value within " + within + " procedures", x.next(), 'f');
                Kit.due("none by the second way", x.countHanded(row, 20), 0);
            }
            long made = bytes() - before;
            inRoom(x, "within " + within + " procedures");
            Kit.due("what is made once within " + within + " procedures: " + made, made < 4_000_000, true);
        }
    }

    /** Makes an expression of nearly so many steps, each a part of the whole that stays open. */
    private static int forest(DoorScan x, int leaf, int steps, int most) {
        int[] trees = new int[10];
        trees[0] = leaf;
        int last = 0;
        while (last + 1 < trees.length && (steps + 1 << last + 1) - 1 <= most) {
            trees[last + 1] = x.make('&', trees[last], trees[last], -1);
            last++;
        }
        int row = leaf;
        int all = steps;
        for (int i = last; i >= 0; i--) {
            int more = (steps + 1 << i) - 1;
            while (all + more + 1 <= most) {
                row = x.make('&', row, trees[i], -1);
                all += more + 1;
            }
        }
        return row;
    }

    /** What is not open any more is used again. */
    private static void nothingStays(String loop) throws IllegalAccessException {
        DoorScan x = Kit.language("4=(R (. v0 v1))", "3=(R (s v0 q))");
        int row = Kit.put(x, "(r (i (l " + loop + " 1) 1 2))");
        Kit.due("steps without an end", endless(x, row), "l");
        for (int i = 0; i < 400; i++) {
            x.begin(row);
            x.next();
        }
        count(x);
        Kit.due("little is made again and again with " + loop + ": " + elements, elements < 60_000, true);
    }

    private static String endless(DoorScan x, int row) {
        x.begin(row);
        return x.next() == 'e' ? String.valueOf(x.error()) : "";
    }

    private static void otherCalls() throws IllegalAccessException {
        DoorScan x = Kit.language("5=(S 1)");
        int row = forest(x, Kit.put(x, "(s (. 1 2) (call 5 3))"), 8, 140);
        long before = bytes();
        for (int i = 0; i < 150; i++) {
            x.countHanded(row, 20);
            x.handed(row, 0);
            x.isSound();
        }
        Kit.due("little is made", bytes() - before < 500_000, true);
        inRoom(x, "of the second way");
    }

    private static void inRoom(DoorScan x, String what) throws IllegalAccessException {
        count(x);
        Kit.due("objects " + what + ": " + objects, objects < OBJECTS, true);
        Kit.due("elements " + what + ": " + elements, elements < ELEMENTS, true);
    }

    private static long bytes() {
        ThreadMXBean threads = (ThreadMXBean) ManagementFactory.getThreadMXBean();
        return threads.getCurrentThreadAllocatedBytes();
    }

    /** Counts what can be reached from an object. */
    private static void count(Object root) throws IllegalAccessException {
        Set<Object> seen = Collections.newSetFromMap(new IdentityHashMap<>());
        ArrayDeque<Object> open = new ArrayDeque<>();
        objects = 0;
        elements = 0;
        seen.add(root);
        open.add(root);
        while (!open.isEmpty()) {
            Object some = open.poll();
            objects++;
            if (some.getClass().isArray()) {
                elements += Array.getLength(some);
                if (some instanceof Object[]) {
                    for (Object element : (Object[]) some) {
                        reach(element, seen, open);
                    }
                }
            } else if (some instanceof Iterable) {
                // a list of the library: its row of elements, and its length
                objects++;
                elements += 2;
                for (Object element : (Iterable<?>) some) {
                    elements++;
                    reach(element, seen, open);
                }
            } else {
                countFields(some, seen, open);
            }
        }
    }

    private static void countFields(Object some, Set<Object> seen, ArrayDeque<Object> open)
            throws IllegalAccessException {
        for (Field field : some.getClass().getDeclaredFields()) {
            if (!Modifier.isStatic(field.getModifiers())) {
                elements++;
                if (!field.getType().isPrimitive()) {
                    field.setAccessible(true);
                    reach(field.get(some), seen, open);
                }
            }
        }
    }

    private static void reach(Object some, Set<Object> seen, ArrayDeque<Object> open) {
        if (some != null && seen.add(some)) {
            open.add(some);
        }
    }
}
