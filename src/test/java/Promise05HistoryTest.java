/** Promise 5: the history, 32 outcomes, the latest one in the lowest bit. */
public final class Promise05HistoryTest {
    private static final Check CHECK = new Check("promise 5");

    public static void main(String[] args) {
        CHECK.sentence("The history.");
        for (int kind = 0; kind < 10; kind++) {
            PredictorKinds x = new PredictorKinds(kind, 2, 5);
            CHECK.due("at first", x.history(), 0);
            Check.updates(x, 4, "1");
            CHECK.due("after 1", x.history(), 1);
            Check.updates(x, 900, "011");
            CHECK.due("after 1011", x.history(), 11);
            CHECK.due("again", x.history(), 11);
            Check.updates(x, 4, "1111111111111111" + "1111111111111111");
            CHECK.due("all taken", x.history(), -1);
            Check.updates(x, 4, "0");
            CHECK.due("the oldest one is gone", x.history(), -2);
            Check.updates(x, 4, "0000000000000000" + "000000000000000");
            CHECK.due("32 not taken", x.history(), 0);
            Check.updates(x, 4, "1" + "0000000000000000" + "000000000000000");
            CHECK.due("the highest bit", x.history(), Integer.MIN_VALUE);
        }
        CHECK.end();
    }
}
