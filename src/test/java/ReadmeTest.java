/** What README.md tells its readers: its examples line by line, its table of bits, what is thrown. */
public final class ReadmeTest {
    private static final Check CHECK = new Check("readme");

    public static void main(String[] args) {
        made();
        firstExample();
        earlyExample();
        bits();
        thrown();
        CHECK.end();
    }

    private static void made() {
        CHECK.due("kind of -1", new PredictorKinds(-1, 1, 0).count(6), 9);
        CHECK.due("S of 11", new PredictorKinds(0, 11, 0).count(7), 1);
        CHECK.due("S of 0", new PredictorKinds(0, 0, 0).count(7), 10);
        CHECK.due("S of the least int", new PredictorKinds(0, Integer.MIN_VALUE, 0).count(7), 2);
    }

    private static void firstExample() {
        PredictorKinds x = new PredictorKinds(2, 4, 0);
        CHECK.due("told(6)", x.told(6), false);
        CHECK.due("update(6, true)", x.update(6, true), false);
        CHECK.due("told(6)", x.told(6), true);
        CHECK.due("row(6)", x.row(6), 2);
        CHECK.due("count(1)", x.count(1), 1);
        CHECK.due("storage()", x.storage(), 32);
    }

    private static void earlyExample() {
        PredictorKinds y = new PredictorKinds(0, 4, 0);
        CHECK.due("early(true)", y.early(true), false);
        CHECK.due("told(8)", y.told(8), true);
        historyAndWaiting(y, 1, 1);
        CHECK.due("told(12)", y.told(12), true);
        historyAndWaiting(y, 3, 2);
        CHECK.due("update(8, false)", y.update(8, false), false);
        historyAndWaiting(y, 0, 0);
        CHECK.due("count(5)", y.count(5), 1);

        int mark = y.mark();
        CHECK.due("mark()", mark, 0);
        CHECK.due("update(8, true)", y.update(8, true), true);
        historyAndWaiting(y, 1, 0);
        CHECK.due("repair(mark)", y.repair(mark), 1);
        historyAndWaiting(y, 0, 0);
    }

    private static void historyAndWaiting(PredictorKinds y, int history, int waiting) {
        CHECK.due("history()", y.history(), history);
        CHECK.due("count(3)", y.count(3), waiting);
    }

    private static void bits() {
        for (int size = 1; size <= 10; size++) {
            int rows = 1 << size;
            int[] due = {0, rows, 2 * rows, 2 * rows + 32, (size + 2) * rows, 6 * rows + 32, 41 * rows + 32,
                63 * rows + 32, 32 * rows, 32};
            for (int kind = 0; kind < due.length; kind++) {
                CHECK.due("kind " + kind + ", S " + size, new PredictorKinds(kind, size, 0).storage(), due[kind]);
            }
        }
    }

    private static void thrown() {
        PredictorKinds x = new PredictorKinds(3, 4, 0);
        for (int i = 0; i < 32; i++) {
            x.mark();
        }
        CHECK.throwing("mark()", UnsupportedOperationException.class, x::mark);
        CHECK.throwing("repair(-1)", IndexOutOfBoundsException.class, () -> x.repair(-1));
        CHECK.throwing("repair(32)", IndexOutOfBoundsException.class, () -> x.repair(32));
        x.repair(4);
        CHECK.throwing("repair(5)", IndexOutOfBoundsException.class, () -> x.repair(5));
        CHECK.throwing("several(0, 0)", IllegalArgumentException.class, () -> x.several(0, 0));
        CHECK.throwing("several(0, 17)", IllegalArgumentException.class, () -> x.several(0, 17));
        CHECK.due("marks stay", x.count(4), 5);
    }
}
