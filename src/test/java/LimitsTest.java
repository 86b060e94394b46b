/** The limits that "What it is" and "Not promised" name: the 512th call still answers. */
public final class LimitsTest {
    private static final Check CHECK = new Check("limits");

    public static void main(String[] args) {
        lastCallAnswers();
        manyUpdates();
        manyTold();
        manyRefused();
        nothingBreaksLater();
        CHECK.end();
    }

    private static PredictorKinds after511Updates() {
        PredictorKinds x = new PredictorKinds(2, 4, 0);
        for (int i = 0; i < 511; i++) {
            x.update(6, true);
        }
        return x;
    }

    private static void lastCallAnswers() {
        CHECK.sentence("An object is used for at most 512 calls after it has been made; "
                + "what later calls answer is free.");
        CHECK.due("told(6)", after511Updates().told(6), true);
        CHECK.due("told(7)", after511Updates().told(7), false);
        CHECK.due("update(6, true)", after511Updates().update(6, true), true);
        CHECK.due("update(6, false)", after511Updates().update(6, false), false);
        CHECK.due("early(true)", after511Updates().early(true), false);
        CHECK.due("history()", after511Updates().history(), -1);
        CHECK.due("mark()", after511Updates().mark(), 0);
        CHECK.throwing("repair(0)", IndexOutOfBoundsException.class, () -> after511Updates().repair(0));
        CHECK.due("row(6)", after511Updates().row(6), 3);
        CHECK.due("part(6)", after511Updates().part(6), 0);
        CHECK.due("storage()", after511Updates().storage(), 32);
        CHECK.due("count(0)", after511Updates().count(0), 511);
        CHECK.due("count(1)", after511Updates().count(1), 1);
        CHECK.due("count(2)", after511Updates().count(2), 511);
        CHECK.due("several(2, 2)", after511Updates().several(2, 2), 2);
        CHECK.throwing("several(2, 17)", IllegalArgumentException.class, () -> after511Updates().several(2, 17));
    }

    /** Kind 0 is wrong 511 times. */
    private static void manyUpdates() {
        CHECK.sentence("Nothing is promised beyond the answers and state changes described above, "
                + "and nothing about an object after its 512th call.");
        PredictorKinds x = new PredictorKinds(0, 4, 0);
        for (int i = 0; i < 511; i++) {
            CHECK.due("update " + i, x.update(i, false), false);
        }
        CHECK.due("count(1)", x.count(1), 511);
        PredictorKinds y = new PredictorKinds(0, 4, 0);
        y.early(true);
        for (int i = 0; i < 255; i++) {
            y.told(i);
            y.update(i, false);
        }
        CHECK.due("count(5)", y.count(5), 255);
    }

    private static void manyTold() {
        CHECK.sentence("64 at most: then nothing of that");
        PredictorKinds x = new PredictorKinds(0, 4, 0);
        x.early(true);
        for (int i = 0; i < 510; i++) {
            CHECK.due("told " + i, x.told(i), true);
        }
        CHECK.due("count(3)", x.count(3), 64);
    }

    private static void manyRefused() {
        CHECK.sentence("UnsupportedOperationException, when there are 32.");
        PredictorKinds x = new PredictorKinds(0, 4, 0);
        for (int i = 0; i < 32; i++) {
            CHECK.due("mark()", x.mark(), i);
        }
        for (int i = 32; i < 511; i++) {
            CHECK.throwing("mark()", UnsupportedOperationException.class, x::mark);
        }
        CHECK.due("count(4)", x.count(4), 32);
    }

    /** What later calls answer is free, but the machine itself never throws, and every call ends. */
    private static void nothingBreaksLater() {
        CHECK.sentence("what later calls answer is free.");
        for (int kind = 0; kind < 10; kind++) {
            for (int size = 1; size <= 10; size += 3) {
                PredictorKinds x = new PredictorKinds(kind, size, -1);
                x.early(true);
                for (int i = 0; i < 3000; i++) {
                    int place = i * 0x01234567;
                    x.told(place);
                    x.told(i);
                    x.update(i % 3 == 0 ? place : 0, i % 7 != 0 || i > 1500);
                    x.several(place, 16);
                    x.row(place);
                    x.part(place);
                }
                CHECK.due("kind " + kind + " still is that kind", x.count(6), kind);
            }
        }
    }
}
