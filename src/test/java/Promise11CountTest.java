/** Promise 11: the counts, and -1 for another what. */
public final class Promise11CountTest {
    private static final Check CHECK = new Check("promise 11");

    public static void main(String[] args) {
        CHECK.sentence("Updates so far (0), of these wrong (1), taken (2), waiting (3), marks (4), "
                + "histories corrected (5), the kind (6), S (7).");
        PredictorKinds x = new PredictorKinds(0, 3, 0);
        counts(x, 0, 0, 0, 0, 0, 0);
        Check.updates(x, 4, "10010");
        counts(x, 5, 3, 2, 0, 0, 0);
        x.mark();
        x.mark();
        counts(x, 5, 3, 2, 0, 2, 0);
        x.early(true);
        x.told(4);
        x.told(8);
        x.told(4);
        counts(x, 5, 3, 2, 3, 2, 0);
        x.update(8, true);
        counts(x, 6, 3, 3, 2, 2, 0);
        x.update(4, false);
        counts(x, 7, 4, 3, 0, 2, 1);
        x.repair(0);
        counts(x, 7, 4, 3, 0, 1, 1);
        x.told(4);
        x.update(4, false);
        counts(x, 8, 5, 3, 0, 1, 2);
        CHECK.sentence("-1 for another what.");
        anotherWhat(x);
        anotherWhat(new PredictorKinds(9, 10, -1));
        CHECK.sentence("the kind (6), S (7).");
        CHECK.due("the kind", new PredictorKinds(27, 4, 0).count(6), 7);
        CHECK.due("S", new PredictorKinds(27, 14, 0).count(7), 4);
        CHECK.end();
    }

    private static void counts(PredictorKinds x, int... due) {
        for (int what = 0; what < due.length; what++) {
            CHECK.due("count(" + what + ")", x.count(what), due[what]);
        }
        CHECK.due("count(6)", x.count(6), 0);
        CHECK.due("count(7)", x.count(7), 3);
    }

    private static void anotherWhat(PredictorKinds x) {
        for (int what : new int[] {-1, -2, 8, 9, 10, 32, 256, Integer.MIN_VALUE, Integer.MAX_VALUE}) {
            CHECK.due("count(" + what + ")", x.count(what), -1);
        }
    }
}
