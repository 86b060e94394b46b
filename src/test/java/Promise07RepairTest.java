/** Promise 7: repair sets the history back to a mark's, answers the one before, loses later marks and what waits. */
public final class Promise07RepairTest {
    private static final Check CHECK = new Check("promise 7");

    public static void main(String[] args) {
        ordinary();
        noSuchMark();
        losesWhatWaits();
        CHECK.end();
    }

    private static PredictorKinds threeMarks() {
        PredictorKinds x = new PredictorKinds(2, 3, 0);
        for (int i = 0; i < 3; i++) {
            Check.updates(x, 4, "1");
            x.mark();
        }
        Check.updates(x, 4, "0");
        return x;
    }

    private static void ordinary() {
        PredictorKinds x = threeMarks();
        CHECK.due("repair(1)", x.repair(1), 14);
        CHECK.due("history", x.history(), 3);
        CHECK.due("marks", x.count(4), 2);
        CHECK.due("repair(1) again", x.repair(1), 3);
        CHECK.due("the row is not set back", x.row(4), 2);
        CHECK.due("updates are not either", x.count(0), 4);
        CHECK.throwing("repair(2)", IndexOutOfBoundsException.class, () -> x.repair(2));
        CHECK.due("mark", x.mark(), 2);
        CHECK.due("repair(0)", x.repair(0), 3);
        CHECK.due("history", x.history(), 1);
        CHECK.due("marks", x.count(4), 1);
    }

    private static void noSuchMark() {
        PredictorKinds none = new PredictorKinds(2, 3, 0);
        CHECK.throwing("repair(0) without marks", IndexOutOfBoundsException.class, () -> none.repair(0));
        PredictorKinds x = threeMarks();
        x.early(true);
        x.told(8);
        for (int mark : new int[] {-1, 3, 4, 32, 33, Integer.MIN_VALUE, Integer.MAX_VALUE}) {
            CHECK.throwing("repair(" + mark + ")", IndexOutOfBoundsException.class, () -> x.repair(mark));
            CHECK.due("history", x.history(), 28);
            CHECK.due("marks", x.count(4), 3);
            CHECK.due("waiting", x.count(3), 1);
        }
    }

    private static void losesWhatWaits() {
        PredictorKinds x = new PredictorKinds(0, 3, 0);
        x.early(true);
        x.mark();
        x.told(8);
        x.told(12);
        CHECK.due("repair(0)", x.repair(0), 3);
        CHECK.due("waiting", x.count(3), 0);
        CHECK.due("early still", x.told(16), true);
        CHECK.due("waiting", x.count(3), 1);
        x.update(8, false);
        CHECK.due("no correction", x.count(5), 0);
        CHECK.due("history", x.history(), 2);
    }
}
