/** Promise 12: several says of up to 16 places in a row, with the history as if each were so. */
public final class Promise12SeveralTest {
    private static final Check CHECK = new Check("promise 12");

    public static void main(String[] args) {
        allTaken();
        places();
        historyAsIf();
        changesNothing();
        wrongNumbers();
        CHECK.end();
    }

    private static void allTaken() {
        PredictorKinds x = new PredictorKinds(0, 3, 0);
        for (int n = 1; n <= 16; n++) {
            CHECK.due("several(7, " + n + ")", x.several(7, n), (1 << n) - 1);
        }
        PredictorKinds coin = new PredictorKinds(9, 3, 65536);
        CHECK.due("the coin is not thrown", coin.several(7, 16), 65535);
    }

    /** S is 5: places 64, 68, 72, .. have the plain rows 2, 6, 10, .. */
    private static void places() {
        PredictorKinds x = new PredictorKinds(1, 5, 0);
        x.update(72, true);
        CHECK.due("the first one lowest", x.several(64, 3), 4);
        CHECK.due("one only", x.several(72, 1), 1);
        CHECK.due("not so far", x.several(64, 2), 0);
        x.update(124, true);
        CHECK.due("16", x.several(64, 16), 0x8004);
        PredictorKinds y = new PredictorKinds(1, 3, 0);
        y.update(3, true);
        CHECK.due("beyond the greatest int", y.several(Integer.MAX_VALUE, 3), 2);
        CHECK.due("below 0", y.several(-5, 3), 4);
    }

    /** S is 4, row 0 says taken, the history is 1: of place -2 not, so that place 2 has row 2 ^ 2. */
    private static void historyAsIf() {
        PredictorKinds x = new PredictorKinds(3, 4, 0);
        x.update(0, true);
        CHECK.due("several(-2, 2)", x.several(-2, 2), 2);
        CHECK.due("several(1, 1)", x.several(1, 1), 1);
        CHECK.due("several(1, 2)", x.several(1, 2), 1);
        x.update(7, true);
        CHECK.due("row 6", x.row(5), 2);
        CHECK.due("of place 3 taken, so that place 7 has row 7 ^ 7", x.several(3, 2), 3);
    }

    private static void changesNothing() {
        for (int kind = 0; kind < 10; kind++) {
            PredictorKinds x = new PredictorKinds(kind, 3, 77);
            Check.updates(x, 64, "1011");
            x.early(true);
            int first = x.several(64, 16);
            CHECK.due("again", x.several(64, 16), first);
            CHECK.due("history", x.history(), 11);
            CHECK.due("waiting", x.count(3), 0);
            CHECK.due("updates", x.count(0), 4);
        }
    }

    private static void wrongNumbers() {
        for (int kind = 0; kind < 10; kind++) {
            PredictorKinds x = new PredictorKinds(kind, 3, 0);
            for (int n : new int[] {0, 17, -1, 18, 32, Integer.MIN_VALUE, Integer.MAX_VALUE}) {
                CHECK.throwing("several(4, " + n + ")", IllegalArgumentException.class, () -> x.several(4, n));
            }
            CHECK.due("history", x.history(), 0);
        }
    }
}
