/** Promise 2: told says what a kind says and changes nothing, but when it is early. */
public final class Promise02ToldTest {
    private static final Check CHECK = new Check("promise 2");

    public static void main(String[] args) {
        changesNothing();
        goesByTheRow();
        putsIntoTheHistoryWhenEarly();
        sixtyFourWait();
        CHECK.end();
    }

    private static void changesNothing() {
        CHECK.sentence("Nothing changes, but when it is early, as told.");
        for (int kind = 0; kind < 10; kind++) {
            PredictorKinds x = new PredictorKinds(kind, 3, 65536);
            Check.updates(x, 5, "1101");
            boolean first = x.told(5);
            int row = x.row(5);
            for (int i = 0; i < 70; i++) {
                CHECK.due("told again of kind " + kind, x.told(5), first);
            }
            CHECK.due("history", x.history(), 13);
            CHECK.due("row", x.row(5), row);
            CHECK.due("updates", x.count(0), 4);
            CHECK.due("waiting", x.count(3), 0);
        }
    }

    /** S is 3: places 8 and 1 have the plain row 1, -1 and 0 the row 0. */
    private static void goesByTheRow() {
        CHECK.sentence("What it says of a branch at a place.");
        PredictorKinds last = new PredictorKinds(1, 3, 0);
        last.update(8, true);
        CHECK.due("last, told(8)", last.told(8), true);
        CHECK.due("last, told(1)", last.told(1), true);
        CHECK.due("last, told(0)", last.told(0), false);
        CHECK.due("last, told(9)", last.told(9), false);
        last.update(-1, true);
        CHECK.due("last, told(0) after -1", last.told(0), true);

        PredictorKinds counters = new PredictorKinds(2, 3, 0);
        counters.update(8, true);
        CHECK.due("counters, told(1)", counters.told(1), true);
        CHECK.due("counters, told(9)", counters.told(9), false);

        PredictorKinds mixed = new PredictorKinds(3, 3, 0);
        mixed.update(8, true);
        CHECK.due("mixed, told(8)", mixed.told(8), false);
        CHECK.due("mixed, told(1)", mixed.told(1), true);
        CHECK.due("mixed, told(9)", mixed.told(9), true);
    }

    private static void putsIntoTheHistoryWhenEarly() {
        CHECK.sentence("but when it is early, as told.");
        PredictorKinds x = new PredictorKinds(1, 3, 0);
        Check.updates(x, 5, "1");
        x.early(true);
        CHECK.due("told(5)", x.told(5), true);
        CHECK.due("history", x.history(), 3);
        CHECK.due("told(4)", x.told(4), false);
        CHECK.due("history", x.history(), 6);
        CHECK.due("waiting", x.count(3), 2);
        CHECK.due("updates", x.count(0), 1);
    }

    private static void sixtyFourWait() {
        CHECK.sentence("(64 at most: then nothing of that)");
        PredictorKinds x = new PredictorKinds(1, 3, 0);
        x.early(true);
        for (int i = 0; i < 63; i++) {
            x.told(4);
        }
        CHECK.due("waiting", x.count(3), 63);
        x.update(5, true);
        CHECK.due("history", x.history(), 1);
        CHECK.due("the 64th", x.told(5), true);
        CHECK.due("history", x.history(), 3);
        CHECK.due("waiting", x.count(3), 64);
        CHECK.due("the 65th", x.told(5), true);
        CHECK.due("history", x.history(), 3);
        CHECK.due("waiting", x.count(3), 64);
        x.update(4, false);
        CHECK.due("waiting after one was right", x.count(3), 63);
        CHECK.due("history", x.history(), 3);
        x.told(5);
        CHECK.due("waiting again", x.count(3), 64);
        CHECK.due("history", x.history(), 7);
    }
}
