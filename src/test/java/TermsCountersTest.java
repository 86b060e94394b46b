import java.math.BigInteger;

/** The edges of "Terms": counters at their ends, and the kinds 0 to 5 and 9. */
public final class TermsCountersTest {
    private static final Check CHECK = new Check("terms, counters");
    private static final String COUNTER = "A COUNTER of 2 bits goes up when a branch is taken (to 3 at most), "
            + "else down (to 0 at least); 2 and 3 say taken.";

    public static void main(String[] args) {
        countersAtTheirEnds();
        ownCountersAtTheirEnds();
        taggedCountersAtTheirEnds();
        loopCountersAtTheirEnds();
        chooserCountersAtTheirEnds();
        always();
        lastAtFirst();
        countersAtFirst();
        for (int size = 1; size <= 10; size++) {
            ownHistories(size);
        }
        chooserAtFirst();
        chooserAtItsEnds();
        coinSeeds();
        CHECK.end();
    }

    /** Kinds 2 and 3 with the history 0. */
    private static void countersAtTheirEnds() {
        CHECK.sentence(COUNTER);
        for (int kind = 2; kind <= 3; kind++) {
            PredictorKinds x = new PredictorKinds(kind, 3, 0);
            x.mark();
            int[] due = {0, 0, 0, 1, 2, 3, 3, 3, 2, 1, 0, 0};
            String outcomes = "000111110000";
            for (int i = 0; i < due.length; i++) {
                Check.updatesAtMark(x, 6, outcomes.substring(i, i + 1));
                CHECK.due("kind " + kind + ", counter after " + i, x.row(6), due[i]);
                CHECK.due("kind " + kind + ", told after " + i, x.told(6), due[i] >= 2);
            }
        }
    }

    /** S is 1: the own history of place 0 is 1 behind the first one, that of place 1 stays 0. */
    private static void ownCountersAtTheirEnds() {
        CHECK.sentence(COUNTER);
        PredictorKinds x = new PredictorKinds(4, 1, 0);
        CHECK.rows(x, 0, "11111", 1, 2, 3, 3, 3);
        CHECK.rows(x, 1, "00000", 1, 0, 0, 0, 0);
        CHECK.due("2 says taken, 3 too", x.told(0), true);
        CHECK.due("0 does not", x.told(1), false);
    }

    /** S is 4: places 0, 17, 34, .. have the plain row 0 and rows and tags of their own, so that none hits. */
    private static void taggedCountersAtTheirEnds() {
        CHECK.sentence(COUNTER);
        PredictorKinds x = new PredictorKinds(6, 4, 0);
        x.mark();
        String outcomes = "00111111000";
        int[] due = {0, 0, 1, 2, 3, 3, 3, 3, 2, 1, 0};
        for (int i = 0; i < due.length; i++) {
            Check.updatesAtMark(x, 17 * i, outcomes.substring(i, i + 1));
            CHECK.due("part of a new place", x.part(17 * (i + 1)), -1);
            CHECK.due("its counter", x.row(17 * (i + 1)), due[i]);
            CHECK.due("what it says", x.told(17 * (i + 1)), due[i] >= 2);
        }
    }

    /** S is 3: places 8 and 1 have one row and take its tag from each other, so that the loop is never trusted. */
    private static void loopCountersAtTheirEnds() {
        CHECK.sentence(COUNTER);
        PredictorKinds x = new PredictorKinds(8, 3, 0);
        String outcomes = "0000111111000000";
        boolean[] due = {false, false, false, false, false, true, true, true, true, true, true, false, false, false,
            false, false};
        for (int i = 0; i < due.length; i++) {
            int place = i % 2 == 0 ? 8 : 1;
            Check.updates(x, place, outcomes.substring(i, i + 1));
            CHECK.due("part after " + i, x.part(place), 0);
            CHECK.due("told after " + i, x.told(place), due[i]);
        }
    }

    /** S is 2, the history 0: the chooser takes kind 2 of place 0 all the time, because kind 3 is never right alone. */
    private static void chooserCountersAtTheirEnds() {
        CHECK.sentence(COUNTER);
        PredictorKinds x = new PredictorKinds(5, 2, 0);
        x.mark();
        String outcomes = "000111111000";
        boolean[] due = {false, false, false, false, true, true, true, true, true, true, false, false};
        for (int i = 0; i < due.length; i++) {
            Check.updatesAtMark(x, 0, outcomes.substring(i, i + 1));
            CHECK.due("told after " + i, x.told(0), due[i]);
            CHECK.due("chooser after " + i, x.row(0), 1);
        }
    }

    private static void always() {
        CHECK.sentence("0 ALWAYS: taken.");
        PredictorKinds x = new PredictorKinds(0, 1, 0);
        for (int place : new int[] {0, -1, Integer.MIN_VALUE, Integer.MAX_VALUE}) {
            Check.updates(x, place, "000000");
            CHECK.due("told(" + place + ")", x.told(place), true);
        }
    }

    private static void lastAtFirst() {
        CHECK.sentence("1 LAST: of its plain row what it was last (0 at first: not).");
        PredictorKinds x = new PredictorKinds(1, 2, 0);
        CHECK.due("at first", x.told(3), false);
        CHECK.rows(x, 3, "11101001", 1, 1, 1, 0, 1, 0, 0, 1);
        CHECK.due("another row still as at first", x.told(2), false);
    }

    private static void countersAtFirst() {
        CHECK.sentence("2 COUNTERS: 2 bits of its plain row, 1 at first.");
        firstCounter(2);
        CHECK.sentence("3 MIXED: 2 bits of row M(place exclusive or history), 1 at first.");
        firstCounter(3);
    }

    private static void firstCounter(int kind) {
        for (int size = 1; size <= 10; size++) {
            PredictorKinds x = new PredictorKinds(kind, size, 0);
            for (int place : new int[] {0, (1 << size) - 1, -1, Integer.MIN_VALUE}) {
                CHECK.due("S " + size + ", row(" + place + ")", x.row(place), 1);
                CHECK.due("S " + size + ", told(" + place + ")", x.told(place), false);
            }
        }
    }

    /** The first one is in the own history for S outcomes: then counter 0 answers again, that learnt at first. */
    private static void ownHistories(int size) {
        CHECK.sentence("a history of min(S, 10) outcomes for each plain row (0 at first); "
                + "counters of 2 bits, 2 to the power min(S, 10), 1 at first, by that.");
        PredictorKinds x = new PredictorKinds(4, size, 0);
        CHECK.due("S " + size + ", counter 0 at first", x.row(0), 1);
        Check.updates(x, 0, "1");
        for (int more = 0; more < size; more++) {
            CHECK.due("S " + size + ", a taken one and " + more + " more", x.row(0), 1);
            CHECK.due("S " + size + ", the history of another row", x.row(1), 2);
            Check.updates(x, 0, "0");
        }
        CHECK.due("S " + size + ", the taken one is gone", x.row(0), 2);
        PredictorKinds full = new PredictorKinds(4, size, 0);
        for (int i = 0; i < size; i++) {
            CHECK.due("S " + size + ", a counter that has not learnt", full.row(0), 1);
            Check.updates(full, 0, "1");
        }
        CHECK.due("S " + size + ", the last counter at first", full.row(0), 1);
        CHECK.rows(full, 0, "11", 2, 3);
    }

    /** With the history 0 place 4 has row 0 of kind 3 and the plain row 1, place 5 row 1 and the plain row 0. */
    private static void chooserAtFirst() {
        CHECK.sentence("kinds 2 and 3 side by side, both updated each time; "
                + "a counter of 2 bits of its plain row (1 at first)");
        PredictorKinds x = new PredictorKinds(5, 2, 0);
        x.mark();
        for (int row = 0; row < 4; row++) {
            CHECK.due("chooser " + row + " at first", x.row(row), 1);
            CHECK.due("part " + row + " at first", x.part(row), 2);
        }
        Check.updatesAtMark(x, 0, "1");
        CHECK.due("kind 2 learnt", x.told(5), true);
        Check.updatesAtMark(x, 4, "1");
        CHECK.due("kind 3 learnt too: it alone was right", x.row(4), 2);
        CHECK.due("another plain row", x.row(0), 1);
    }

    /**
     * S is 2, the history 0: place 4 has row 0 of kind 3 and another plain row, place 5 the plain row 0 and another
     * row of kind 3; so kinds 2 and 3 of place 0 are set against each other.
     */
    private static void chooserAtItsEnds() {
        CHECK.sentence("2 and 3 take what 3 says, else 2; it goes up when 3 alone was right, down when 2 alone was.");
        PredictorKinds x = new PredictorKinds(5, 2, 0);
        x.mark();
        Check.updatesAtMark(x, 4, "11");
        CHECK.rowsAtMark(x, 5, "0", 1);
        chooses(x, "two", 1, false);
        CHECK.rowsAtMark(x, 0, "1", 2);
        chooses(x, "three", 2, true);
        CHECK.rowsAtMark(x, 0, "1", 3);
        CHECK.rowsAtMark(x, 5, "0", 3);
        CHECK.rowsAtMark(x, 0, "1", 3);
        chooses(x, "three, at its upper end", 3, true);
        Check.updatesAtMark(x, 4, "000");
        chooses(x, "three", 3, false);
        CHECK.rowsAtMark(x, 0, "11", 2, 1);
        chooses(x, "two", 1, true);
        Check.updatesAtMark(x, 4, "00");
        CHECK.rowsAtMark(x, 0, "11", 0, 0);
        chooses(x, "two, at its lower end", 0, true);
        CHECK.rowsAtMark(x, 0, "1111", 0, 0, 0, 0);
        CHECK.rowsAtMark(x, 0, "00", 0, 0);
    }

    private static void chooses(PredictorKinds x, String text, int chooser, boolean says) {
        CHECK.due(text + ": row(0)", x.row(0), chooser);
        CHECK.due(text + ": part(0)", x.part(0), chooser >= 2 ? 3 : 2);
        CHECK.due(text + ": told(0)", x.told(0), says);
    }

    private static void coinSeeds() {
        CHECK.sentence("x, the seed at first; says taken when bit 16 of x is 1; "
                + "each update: x is 1103515245 * x + 12345 (32 bits).");
        int[] seeds = {0, 1, -1, 65535, 65536, 131071, 131072, Integer.MIN_VALUE, Integer.MAX_VALUE, -65536, -65537};
        for (int seed : seeds) {
            PredictorKinds x = new PredictorKinds(9, 5, seed);
            BigInteger all = BigInteger.ONE.shiftLeft(32);
            BigInteger state = BigInteger.valueOf(seed).mod(all);
            for (int i = 0; i < 100; i++) {
                CHECK.due("seed " + seed + ", told after " + i, x.told(i), state.testBit(16));
                x.update(-i, i % 3 == 0);
                state = state.multiply(BigInteger.valueOf(1103515245)).add(BigInteger.valueOf(12345)).mod(all);
            }
        }
    }
}
