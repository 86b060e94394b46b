/** Promise 1: the kind is kind modulo 10, S is 1 + (size - 1) modulo 10, all is empty at first. */
public final class Promise01NewObjectTest {
    private static final Check CHECK = new Check("promise 1");

    public static void main(String[] args) {
        kinds();
        sizes();
        emptyAtFirst();
        firstAnswers();
        seeds();
        CHECK.end();
    }

    private static void kinds() {
        CHECK.sentence("The kind is kind modulo 10, S is 1 + (size - 1) modulo 10 (rests not below 0).");
        int[] given = {0, 1, 9, 10, 11, 19, 127, -1, -9, -10, -11, Integer.MAX_VALUE, Integer.MIN_VALUE};
        int[] due = {0, 1, 9, 0, 1, 9, 7, 9, 1, 0, 9, 7, 2};
        for (int i = 0; i < given.length; i++) {
            CHECK.due("kind of " + given[i], new PredictorKinds(given[i], 3, 0).count(6), due[i]);
        }
        int[] bitsOfKinds = {0, 8, 16, 48, 40, 80, 360, 536, 256, 32};
        for (int tens = -30; tens <= 30; tens += 10) {
            for (int kind = 0; kind < 10; kind++) {
                PredictorKinds x = new PredictorKinds(tens + kind, 3, 0);
                CHECK.due("kind of " + (tens + kind), x.count(6), kind);
                CHECK.due("bits of kind " + (tens + kind), x.storage(), bitsOfKinds[kind]);
            }
        }
    }

    private static void sizes() {
        CHECK.sentence("S is 1 + (size - 1) modulo 10 (rests not below 0).");
        int[] given = {1, 2, 10, 11, 20, 21, 0, -1, -8, -9, -10, Integer.MAX_VALUE, Integer.MIN_VALUE};
        int[] due = {1, 2, 10, 1, 10, 1, 10, 9, 2, 1, 10, 7, 2};
        for (int kind = 0; kind < 10; kind++) {
            for (int i = 0; i < given.length; i++) {
                CHECK.due("S of " + given[i], new PredictorKinds(kind, given[i], 0).count(7), due[i]);
            }
        }
        for (int tens = -30; tens <= 30; tens += 10) {
            for (int size = 1; size <= 10; size++) {
                PredictorKinds x = new PredictorKinds(1, tens + size, 0);
                CHECK.due("S of " + (tens + size), x.count(7), size);
                CHECK.due("rows of S " + (tens + size), x.storage(), 1 << size);
            }
        }
    }

    private static void emptyAtFirst() {
        CHECK.sentence("Updates so far (0), of these wrong (1), taken (2), waiting (3), marks (4)");
        for (int kind = 0; kind < 10; kind++) {
            PredictorKinds x = new PredictorKinds(kind, 4, 77);
            CHECK.due("history", x.history(), 0);
            for (int what = 0; what <= 5; what++) {
                CHECK.due("count(" + what + ")", x.count(what), 0);
            }
            CHECK.due("early(false)", x.early(false), false);
        }
    }

    private static void firstAnswers() {
        CHECK.sentence("What it says of a branch at a place.");
        boolean[] says = {true, false, false, false, false, false, false, true, false, false};
        int[] rows = {1, 0, 1, 1, 1, 1, 1, 0, -1, 0};
        int[] parts = {0, 0, 0, 0, 0, 2, -1, 0, 0, 0};
        int[] places = {0, 1, 64, -1, Integer.MIN_VALUE, Integer.MAX_VALUE};
        for (int kind = 0; kind < 10; kind++) {
            for (int place : places) {
                PredictorKinds x = new PredictorKinds(kind, 5, 0);
                CHECK.due("told of kind " + kind, x.told(place), says[kind]);
                CHECK.due("row of kind " + kind, x.row(place), rows[kind]);
                CHECK.due("part of kind " + kind, x.part(place), parts[kind]);
            }
        }
    }

    private static void seeds() {
        CHECK.sentence("x, the seed at first; says taken when bit 16 of x is 1");
        CHECK.due("coin of 65536", new PredictorKinds(9, 1, 65536).told(0), true);
        CHECK.due("coin of 65535", new PredictorKinds(9, 1, 65535).told(0), false);
        CHECK.due("coin of -1", new PredictorKinds(9, 1, -1).told(0), true);
    }
}
