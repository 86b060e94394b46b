/** Promise 7: repair sets the history back to a mark's, answers the one before, loses later marks and what waits. */
public final class Promise07RepairTest {
    private static final Check CHECK = new Check("promise 7");

    public static void main(String[] args) {
        ordinary();
        noSuchMark();
        losesWhatWaits();
        allMarks();
        allThatWaits();
        CHECK.end();
    }

    private static PredictorKinds threeMarks() {
        PredictorKinds x = new PredictorKinds(2, 3, 0);
        for (int i = 0; i < 3; i++) {
            Check.updates(x, 4, "1");
            x.mark();
        }
        Check.updates(x, 4, "0");
        return x;
    }

    private static void ordinary() {
        CHECK.sentence("The history is that of a mark again; marks behind it are gone, "
                + "what waits is lost: the history before.");
        PredictorKinds x = threeMarks();
        CHECK.due("repair(1)", x.repair(1), 14);
        CHECK.due("history", x.history(), 3);
        CHECK.due("marks", x.count(4), 2);
        CHECK.due("repair(1) again", x.repair(1), 3);
        CHECK.due("the row is not set back", x.row(4), 2);
        CHECK.due("updates are not either", x.count(0), 4);
        CHECK.throwing("repair(2)", IndexOutOfBoundsException.class, () -> x.repair(2));
        CHECK.due("mark", x.mark(), 2);
        CHECK.due("repair(0)", x.repair(0), 3);
        CHECK.due("history", x.history(), 1);
        CHECK.due("marks", x.count(4), 1);
    }

    private static void noSuchMark() {
        CHECK.sentence("IndexOutOfBoundsException, when there is no such mark.");
        PredictorKinds none = new PredictorKinds(2, 3, 0);
        CHECK.throwing("repair(0) without marks", IndexOutOfBoundsException.class, () -> none.repair(0));
        PredictorKinds x = threeMarks();
        x.early(true);
        x.told(8);
        for (int mark : new int[] {-1, 3, 4, 32, 33, Integer.MIN_VALUE, Integer.MAX_VALUE}) {
            CHECK.throwing("repair(" + mark + ")", IndexOutOfBoundsException.class, () -> x.repair(mark));
            CHECK.due("history", x.history(), 28);
            CHECK.due("marks", x.count(4), 3);
            CHECK.due("waiting", x.count(3), 1);
        }
    }

    /** Each of the 32 marks, from the last one down; the one behind is gone then, and only that. */
    private static void allMarks() {
        CHECK.sentence("marks behind it are gone");
        PredictorKinds x = new PredictorKinds(2, 3, 0);
        for (int i = 0; i < 32; i++) {
            x.mark();
            x.update(4, i % 2 == 0);
        }
        CHECK.throwing("repair(32)", IndexOutOfBoundsException.class, () -> x.repair(32));
        for (int i = 31; i >= 0; i--) {
            CHECK.due("repair(" + i + ")", x.repair(i), inTurn(i + 1));
            CHECK.due("history()", x.history(), inTurn(i));
            CHECK.due("count(4)", x.count(4), i + 1);
            int gone = i + 1;
            CHECK.throwing("repair(" + gone + ")", IndexOutOfBoundsException.class, () -> x.repair(gone));
        }
    }

    /** The history of so many outcomes in turn, taken at first. */
    private static int inTurn(int outcomes) {
        return (int) (0xaaaaaaaaL >>> (32 - outcomes));
    }

    private static void allThatWaits() {
        CHECK.sentence("what waits is lost");
        PredictorKinds x = new PredictorKinds(0, 3, 0);
        x.mark();
        x.early(true);
        for (int i = 0; i < 64; i++) {
            x.told(i);
        }
        CHECK.due("repair(0)", x.repair(0), -1);
        CHECK.due("count(3)", x.count(3), 0);
        CHECK.due("repair(0), none waits", x.repair(0), 0);
        CHECK.due("count(5)", x.count(5), 0);
    }

    private static void losesWhatWaits() {
        CHECK.sentence("what waits is lost");
        PredictorKinds x = new PredictorKinds(0, 3, 0);
        x.early(true);
        x.mark();
        x.told(8);
        x.told(12);
        CHECK.due("repair(0)", x.repair(0), 3);
        CHECK.due("waiting", x.count(3), 0);
        CHECK.due("early still", x.told(16), true);
        CHECK.due("waiting", x.count(3), 1);
        x.update(8, false);
        CHECK.due("no correction", x.count(5), 0);
        CHECK.due("history", x.history(), 2);
    }
}
