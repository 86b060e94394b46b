/** Promise 4: early answers what it was; what waits is lost. */
public final class Promise04EarlyTest {
    private static final Check CHECK = new Check("promise 4");

    public static void main(String[] args) {
        answersWhatItWas();
        losesWhatWaits(true);
        losesWhatWaits(false);
        noneOrAll(true);
        noneOrAll(false);
        offAgain();
        CHECK.end();
    }

    private static void answersWhatItWas() {
        CHECK.sentence("Whether histories are told early from now on: what it was.");
        PredictorKinds x = new PredictorKinds(2, 3, 0);
        CHECK.due("at first", x.early(true), false);
        CHECK.due("on", x.early(true), true);
        CHECK.due("on still", x.early(false), true);
        CHECK.due("off", x.early(false), false);
        CHECK.due("off still", x.early(true), false);
    }

    private static void losesWhatWaits(boolean on) {
        CHECK.sentence("What waits is lost.");
        PredictorKinds x = new PredictorKinds(0, 3, 0);
        x.early(true);
        x.told(4);
        x.told(8);
        CHECK.due("waiting", x.count(3), 2);
        x.early(on);
        CHECK.due("waiting", x.count(3), 0);
        CHECK.due("history stays", x.history(), 3);
        x.update(4, false);
        CHECK.due("history", x.history(), 6);
        CHECK.due("corrected", x.count(5), 0);
    }

    /** None waits, and all that can. */
    private static void noneOrAll(boolean on) {
        CHECK.sentence("What waits is lost.");
        PredictorKinds x = new PredictorKinds(0, 3, 0);
        x.early(true);
        x.early(on);
        CHECK.due("waiting", x.count(3), 0);
        x.early(true);
        for (int i = 0; i < 70; i++) {
            x.told(i);
        }
        CHECK.due("waiting", x.count(3), 64);
        x.early(on);
        CHECK.due("waiting", x.count(3), 0);
        x.told(5);
        CHECK.due("waiting", x.count(3), on ? 1 : 0);
    }

    private static void offAgain() {
        CHECK.sentence("Whether histories are told early from now on");
        PredictorKinds x = new PredictorKinds(0, 3, 0);
        x.early(true);
        x.early(false);
        x.told(4);
        CHECK.due("history", x.history(), 0);
        CHECK.due("waiting", x.count(3), 0);
    }
}
