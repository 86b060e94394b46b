/** Promise 12: several says of up to 16 places in a row, with the history as if each were so. */
public final class Promise12SeveralTest {
    private static final Check CHECK = new Check("promise 12");

    public static void main(String[] args) {
        allTaken();
        places();
        historyAsIf();
        sixteenAsIf();
        whenFull();
        changesNothing();
        wrongNumbers();
        CHECK.end();
    }

    private static void allTaken() {
        CHECK.sentence("What it says of places place, place + 4, .., up to 16 (n), as bits (the first one lowest)");
        PredictorKinds x = new PredictorKinds(0, 3, 0);
        for (int n = 1; n <= 16; n++) {
            CHECK.due("several(7, " + n + ")", x.several(7, n), (1 << n) - 1);
        }
        PredictorKinds coin = new PredictorKinds(9, 3, 65536);
        CHECK.due("the coin is not thrown", coin.several(7, 16), 65535);
    }

    /** S is 5: places 64, 68, 72, .. have the plain rows 2, 6, 10, .. */
    private static void places() {
        CHECK.sentence("places place, place + 4, .., up to 16 (n)");
        PredictorKinds x = new PredictorKinds(1, 5, 0);
        x.update(72, true);
        CHECK.due("the first one lowest", x.several(64, 3), 4);
        CHECK.due("one only", x.several(72, 1), 1);
        CHECK.due("not so far", x.several(64, 2), 0);
        x.update(124, true);
        CHECK.due("16", x.several(64, 16), 0x8004);
        PredictorKinds y = new PredictorKinds(1, 3, 0);
        y.update(3, true);
        CHECK.due("beyond the greatest int", y.several(Integer.MAX_VALUE, 3), 2);
        CHECK.due("below 0", y.several(-5, 3), 4);
    }

    /** S is 4, row 0 says taken, the history is 1: of place -2 not, so that place 2 has row 2 ^ 2. */
    private static void historyAsIf() {
        CHECK.sentence("with the history as if each were so.");
        PredictorKinds x = new PredictorKinds(3, 4, 0);
        x.update(0, true);
        CHECK.due("several(-2, 2)", x.several(-2, 2), 2);
        CHECK.due("several(1, 1)", x.several(1, 1), 1);
        CHECK.due("several(1, 2)", x.several(1, 2), 1);
        x.update(7, true);
        CHECK.due("row 6", x.row(5), 2);
        CHECK.due("of place 3 taken, so that place 7 has row 7 ^ 7", x.several(3, 2), 3);
    }

    /** S is 10: row 0 says taken; each place has the row that the one before and what was said of it make. */
    private static void sixteenAsIf() {
        CHECK.sentence("with the history as if each were so.");
        PredictorKinds x = new PredictorKinds(3, 10, 0);
        x.mark();
        x.update(0, true);
        x.repair(0);
        CHECK.due("place 0 alone says taken", x.several(0, 1), 1);
        CHECK.due("places 0, 4 with 1, 8 with 2, 12 with 4, ..", x.several(0, 16), 1);
        CHECK.due("places -4, 0: not, then taken, then 4 with 1, ..", x.several(-4, 16), 2);
        Check.updatesAtMark(x, 4 ^ 1, "1");
        CHECK.due("place 4 with the history 1 too", x.several(0, 16), 3);
        Check.updatesAtMark(x, 60, "1");
        CHECK.due("place 60, with ten that are not in the lowest bits of the history", x.several(0, 16), 0x8003);
        CHECK.due("not so far", x.several(0, 15), 3);
    }

    /** As many as can wait do: several neither waits nor asks for room. */
    private static void whenFull() {
        CHECK.sentence("What it says of places place, place + 4, .., up to 16 (n)");
        PredictorKinds x = new PredictorKinds(0, 3, 0);
        x.early(true);
        for (int i = 0; i < 63; i++) {
            x.told(i);
        }
        CHECK.due("several(0, 16)", x.several(0, 16), 65535);
        CHECK.due("count(3)", x.count(3), 63);
        x.told(63);
        CHECK.due("several(0, 1)", x.several(0, 1), 1);
        CHECK.due("count(3)", x.count(3), 64);
    }

    private static void changesNothing() {
        CHECK.sentence("with the history as if each were so.");
        for (int kind = 0; kind < 10; kind++) {
            PredictorKinds x = new PredictorKinds(kind, 3, 77);
            Check.updates(x, 64, "1011");
            x.early(true);
            int first = x.several(64, 16);
            CHECK.due("again", x.several(64, 16), first);
            CHECK.due("history", x.history(), 11);
            CHECK.due("waiting", x.count(3), 0);
            CHECK.due("updates", x.count(0), 4);
        }
    }

    private static void wrongNumbers() {
        CHECK.sentence("IllegalArgumentException, when n is not 1 .. 16.");
        for (int kind = 0; kind < 10; kind++) {
            PredictorKinds x = new PredictorKinds(kind, 3, 0);
            for (int n : new int[] {0, 17, -1, 18, 32, Integer.MIN_VALUE, Integer.MAX_VALUE}) {
                CHECK.throwing("several(4, " + n + ")", IllegalArgumentException.class, () -> x.several(4, n));
            }
            CHECK.due("history", x.history(), 0);
        }
    }
}
