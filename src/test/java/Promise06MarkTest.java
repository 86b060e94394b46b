/** Promise 6: mark keeps the history; there are 32 at most. */
public final class Promise06MarkTest {
    private static final Check CHECK = new Check("promise 6");

    public static void main(String[] args) {
        CHECK.sentence("Keeps the history: a mark's number, from 0 on.");
        PredictorKinds x = new PredictorKinds(2, 3, 0);
        for (int i = 0; i < 32; i++) {
            CHECK.due("mark", x.mark(), i);
            CHECK.due("marks", x.count(4), i + 1);
            CHECK.due("history stays", x.history(), i == 0 ? 0 : -1 >>> (32 - i));
            x.update(4, true);
        }
        CHECK.sentence("UnsupportedOperationException, when there are 32.");
        for (int again = 0; again < 2; again++) {
            CHECK.throwing("the 33rd mark", UnsupportedOperationException.class, x::mark);
            CHECK.due("marks", x.count(4), 32);
            CHECK.due("history", x.history(), -1);
        }
        CHECK.sentence("Keeps the history: a mark's number, from 0 on.");
        for (int i = 31; i >= 0; i--) {
            x.repair(i);
            CHECK.due("what mark " + i + " kept", x.history(), i == 0 ? 0 : -1 >>> (32 - i));
        }
        CHECK.due("marks", x.count(4), 1);
        CHECK.due("a mark behind the first", x.mark(), 1);
        whatWaitsStays();
        oneLessThanAll();
        CHECK.end();
    }

    private static void oneLessThanAll() {
        CHECK.sentence("UnsupportedOperationException, when there are 32.");
        PredictorKinds x = new PredictorKinds(2, 3, 0);
        for (int i = 0; i < 32; i++) {
            x.mark();
        }
        x.repair(31);
        CHECK.throwing("all 32 are still there", UnsupportedOperationException.class, x::mark);
        x.repair(30);
        CHECK.due("there were 31", x.mark(), 31);
        CHECK.throwing("there are 32", UnsupportedOperationException.class, x::mark);
    }

    private static void whatWaitsStays() {
        CHECK.sentence("Keeps the history");
        PredictorKinds x = new PredictorKinds(0, 3, 0);
        x.early(true);
        x.told(8);
        x.told(9);
        CHECK.due("mark", x.mark(), 0);
        CHECK.due("waiting", x.count(3), 2);
        x.update(8, false);
        CHECK.due("corrected", x.history(), 0);
        x.repair(0);
        CHECK.due("the early history was kept", x.history(), 3);
    }
}
