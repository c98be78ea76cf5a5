/** Promises 26 to 30: figures. */
public final class FiguresTest {
    public static void main(String[] args) {
        DoorScan x = new DoorScan();
        Kit.throwing("errorShare() without runs", "Arithmetic", () -> x.errorShare());
        Kit.throwing("meanSteps() without values", "Arithmetic", () -> x.meanSteps());
        int row = Kit.put(x, "(t 1 3)");
        int error = Kit.put(x, "(| 1 v0)");
        int none = Kit.put(x, "(< 2 1)");
        x.begin(none);
        Kit.due("errorShare() of a run that is only begun", x.errorShare(), 0.0f);
        Kit.due("steps() of a run that is only begun", x.steps(), 0);
        x.next();
        Kit.due("runs()", x.runs(), 1);
        Kit.due("steps()", x.steps(), 3);
        Kit.due("values()", x.values(), 0);
        Kit.throwing("meanSteps() without values", "Arithmetic", () -> x.meanSteps());
        x.begin(row);
        x.next();
        x.next();
        Kit.due("runs()", x.runs(), 2);
        Kit.due("steps()", x.steps(), 6);
        Kit.due("values()", x.values(), 2);
        Kit.due("meanSteps()", x.meanSteps(), 3.0);
        x.begin(error);
        Kit.due("errorShare() ahead of the error", Kit.row(x, 1) + x.errorShare(), "10.0");
        x.next();
        x.next();
        Kit.due("errorShare()", x.errorShare(), 1.0f / 3.0f);
        Kit.due("values() behind the error", x.values(), 3);
        Kit.due("steps() behind the error", x.steps(), 9);
        x.begin(error);
        x.begin(row);
        Kit.due("runs()", x.runs(), 5);
        Kit.due("errorShare()", x.errorShare(), 0.2f);
        Kit.due("values()", Kit.row(x, 9), "1 2 3 f");
        Kit.due("meanSteps()", x.meanSteps(), 12.0 / 6.0);
        x.begin(none);
        x.next();
        Kit.due("meanSteps()", x.meanSteps(), 15.0 / 6.0);
        Kit.throwing("begin(99)", "IndexOutOfBounds", () -> x.begin(99));
        Kit.due("runs() behind what was thrown", x.runs(), 6);
        Kit.end();
    }
}
