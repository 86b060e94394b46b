/** The edges of "Terms": what is told early, what waits, none of it, and all of it. */
public final class TermsEarlyTest {
    private static final Check CHECK = new Check("terms, early");

    public static void main(String[] args) {
        notEarly();
        sixtyFourWait();
        roomAgain();
        correctedWhenFull();
        oldestOfItsPlace();
        whatWasSaid();
        behindTheOthers();
        goesByTheHistoryBefore();
        saysByTheHistoryBefore();
        allIsLost();
        withoutSuchOne();
        saidWrongThen();
        historyIsFull();
        CHECK.end();
    }

    private static PredictorKinds early(int kind) {
        PredictorKinds x = new PredictorKinds(kind, 3, 0);
        x.early(true);
        return x;
    }

    private static void state(String text, PredictorKinds x, int history, int waiting, int corrected) {
        CHECK.due(text + ": history()", x.history(), history);
        CHECK.due(text + ": count(3)", x.count(3), waiting);
        CHECK.due(text + ": count(5)", x.count(5), corrected);
    }

    private static void notEarly() {
        CHECK.sentence("THE HISTORY gets each branch's outcome at its update.");
        PredictorKinds x = new PredictorKinds(0, 3, 0);
        x.told(8);
        state("told", x, 0, 0, 0);
        x.update(8, false);
        state("said wrong", x, 0, 0, 0);
        x.update(8, true);
        state("said right", x, 1, 0, 0);
    }

    /** Kind 0, full: 64 places wait; what is said of the 65th is answered and nothing else. */
    private static PredictorKinds full() {
        PredictorKinds x = early(0);
        for (int place = 0; place < 64; place++) {
            CHECK.due("waiting", x.count(3), place);
            x.told(place);
        }
        return x;
    }

    private static void sixtyFourWait() {
        CHECK.sentence("the place, the history before, and what was said wait behind the others "
                + "(64 at most: then nothing of that).");
        PredictorKinds x = full();
        state("full", x, -1, 64, 0);
        x.update(99, false);
        state("full, an outcome of another place", x, -2, 64, 0);
        for (int again = 0; again < 3; again++) {
            CHECK.due("what is said", x.told(64), true);
            state("full, told", x, -2, 64, 0);
        }
        CHECK.due("update of the one that does not wait", x.update(64, true), true);
        state("behind all", x, -3, 64, 0);
        CHECK.due("update of the one that does not wait", x.update(64, false), false);
        state("behind all", x, -6, 64, 0);
    }

    private static void roomAgain() {
        CHECK.sentence("else that one waits no more.");
        PredictorKinds x = full();
        x.update(99, false);
        x.update(63, true);
        state("the last one was right", x, -2, 63, 0);
        x.told(64);
        state("room for one", x, -3, 64, 0);
        x.told(65);
        state("and no more", x, -3, 64, 0);
        x.update(0, true);
        x.update(64, true);
        state("the first and the last one were right", x, -3, 62, 0);
        for (int place = 1; place < 63; place++) {
            CHECK.due("waiting", x.count(3), 63 - place);
            x.update(place, true);
        }
        state("all were right", x, -3, 0, 0);
    }

    private static void correctedWhenFull() {
        CHECK.sentence("the history is that before it with the right outcome behind, "
                + "and all that waits is lost (CORRECTED)");
        PredictorKinds first = full();
        first.update(0, false);
        state("the first one", first, 0, 0, 1);
        PredictorKinds fifth = full();
        fifth.update(4, false);
        state("the fifth one", fifth, 30, 0, 1);
        PredictorKinds last = full();
        last.update(63, false);
        state("the last one", last, -2, 0, 1);
        last.told(5);
        state("room again", last, -3, 1, 1);
    }

    private static void oldestOfItsPlace() {
        CHECK.sentence("An update looks for the oldest one of its place that waits");
        PredictorKinds x = early(0);
        x.update(9, false);
        x.told(8);
        x.told(8);
        x.told(8);
        state("three of one place", x, 7, 3, 0);
        x.update(8, true);
        state("the oldest one was right", x, 7, 2, 0);
        x.update(8, false);
        state("the next one was wrong", x, 2, 0, 1);
    }

    /** Kind 1: of place 4 taken is said, of the others not; each keeps what was said of it when one before it goes. */
    private static void whatWasSaid() {
        CHECK.sentence("the place, the history before, and what was said wait");
        PredictorKinds x = new PredictorKinds(1, 3, 0);
        x.update(4, true);
        x.early(true);
        for (int place : new int[] {5, 4, 6, 4}) {
            x.told(place);
        }
        state("1, and 0101", x, 21, 4, 0);
        x.update(5, false);
        state("the first one was right", x, 21, 3, 0);
        x.update(4, true);
        state("the second one was right", x, 21, 2, 0);
        x.update(6, false);
        state("the third one was right", x, 21, 1, 0);
        x.update(4, false);
        state("the last one was wrong", x, 20, 0, 1);
    }

    /** The one in the middle goes, the others keep their order and their histories. */
    private static void behindTheOthers() {
        CHECK.sentence("wait behind the others");
        PredictorKinds x = early(0);
        for (int place : new int[] {4, 8, 12, 4, 8}) {
            x.told(place);
        }
        x.update(8, true);
        state("the second one was right", x, 31, 4, 0);
        x.update(12, true);
        state("the third one was right", x, 31, 3, 0);
        x.update(4, true);
        state("the first one was right", x, 31, 2, 0);
        x.update(8, false);
        state("the fifth one was wrong", x, 30, 0, 1);
        PredictorKinds y = early(0);
        for (int place : new int[] {4, 8, 12, 4, 8}) {
            y.told(place);
        }
        y.update(4, true);
        y.update(4, false);
        state("the fourth one was wrong", y, 14, 0, 1);
    }

    /** Kind 3: place 2 waits with row 2 and the history 0, then place 5 with row 6 and the history 3. */
    private static void goesByTheHistoryBefore() {
        CHECK.sentence("what it says and learns then goes by the history before that one");
        PredictorKinds x = early(3);
        x.told(2);
        x.update(4, true);
        x.update(4, true);
        CHECK.due("history", x.history(), 3);
        CHECK.due("update", x.update(2, false), true);
        CHECK.due("row 2 learnt", x.row(2 ^ 3), 0);
        CHECK.due("row 1, by the history 3, did not", x.row(2), 1);
        x.told(5);
        x.update(3, true);
        CHECK.due("history", x.history(), 13);
        CHECK.due("update", x.update(5, true), false);
        CHECK.due("history", x.history(), 7);
        CHECK.due("row 6 learnt", x.row(6 ^ 7), 2);
        CHECK.due("row 0, by the history 13, did not", x.row(0 ^ 7), 1);
    }

    /** Kind 3, row 0 says taken: place 1 has it with the history 1, not with 3; place 2 with 2, not with 1. */
    private static void saysByTheHistoryBefore() {
        CHECK.sentence("what it says and learns then goes by the history before that one");
        PredictorKinds x = new PredictorKinds(3, 3, 0);
        x.update(0, true);
        x.early(true);
        CHECK.due("told(1)", x.told(1), true);
        CHECK.due("by the history now", x.row(1), 1);
        CHECK.due("update(1, true)", x.update(1, true), true);
        state("it had said right", x, 3, 0, 0);
        PredictorKinds y = new PredictorKinds(3, 3, 0);
        y.update(0, true);
        y.early(true);
        CHECK.due("told(2)", y.told(2), false);
        CHECK.due("by the history now", y.row(2), 2);
        CHECK.due("update(2, false)", y.update(2, false), true);
        state("it had said right", y, 2, 0, 0);
    }

    private static void allIsLost() {
        CHECK.sentence("all that waits is lost (CORRECTED)");
        PredictorKinds x = early(0);
        x.told(4);
        x.told(8);
        x.told(12);
        x.update(8, false);
        state("corrected", x, 2, 0, 1);
        x.update(4, false);
        state("the older one is lost too", x, 4, 0, 1);
        x.update(12, false);
        state("and the later one", x, 8, 0, 1);
    }

    private static void withoutSuchOne() {
        CHECK.sentence("Without such one the outcome comes into the history behind all.");
        PredictorKinds x = early(0);
        x.update(4, false);
        x.update(4, true);
        state("none waits", x, 1, 0, 0);
        x.told(8);
        x.update(4, false);
        state("one of another place waits", x, 6, 1, 0);
        x.update(8 + 1024, true);
        state("one of the same row, but not of the same place", x, 13, 1, 0);
        x.update(8, false);
        state("the history before it was 1", x, 2, 0, 1);
    }

    /** Kind 1: what was said of place 8 was wrong then, though it is right now, and the other way round. */
    private static void saidWrongThen() {
        CHECK.sentence("if that one had said wrong");
        PredictorKinds x = early(1);
        x.told(8);
        x.update(1, true);
        state("another place of its row", x, 1, 1, 0);
        CHECK.due("right now", x.update(8, true), true);
        state("wrong then", x, 1, 0, 1);
        x.told(8);
        x.update(1, false);
        state("another place of its row", x, 6, 1, 1);
        CHECK.due("wrong now", x.update(8, true), false);
        state("right then", x, 6, 0, 1);
    }

    /** What is told early pushes the oldest outcome out, and a correction brings it back. */
    private static void historyIsFull() {
        CHECK.sentence("told() puts what it says into it at once");
        PredictorKinds x = new PredictorKinds(0, 3, 0);
        x.update(4, true);
        for (int i = 0; i < 31; i++) {
            x.update(4, false);
        }
        x.early(true);
        state("the highest bit", x, Integer.MIN_VALUE, 0, 0);
        x.told(8);
        state("pushed out", x, 1, 1, 0);
        x.told(12);
        x.update(8, false);
        state("corrected: pushed out by the right outcome", x, 0, 0, 1);
    }
}
