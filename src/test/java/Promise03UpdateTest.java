/** Promise 3: update answers whether what it says now is right, and then learns. */
public final class Promise03UpdateTest {
    private static final Check CHECK = new Check("promise 3");

    public static void main(String[] args) {
        always();
        last();
        counters();
        mixed();
        own();
        chooser();
        tagged();
        sums();
        loops();
        coin();
        earlyRight();
        earlyWrong();
        saidThenAndNow();
        oldestOfItsPlace();
        CHECK.end();
    }

    /** Updates one place and looks at each answer: R is right, w is wrong. */
    private static void run(PredictorKinds x, int place, String outcomes, String answers) {
        for (int i = 0; i < outcomes.length(); i++) {
            boolean right = x.update(place, outcomes.charAt(i) == '1');
            CHECK.due("update " + i + " of " + outcomes, right, answers.charAt(i) == 'R');
        }
    }

    private static void always() {
        PredictorKinds x = new PredictorKinds(0, 4, 0);
        run(x, 3, "110010", "RRwwRw");
        CHECK.due("history", x.history(), 50);
    }

    private static void last() {
        run(new PredictorKinds(1, 4, 0), 3, "0110010", "RwRwRww");
    }

    /** 1, 2, 3, 3, 2, 1, 0, 0, 1, 2. */
    private static void counters() {
        run(new PredictorKinds(2, 4, 0), 3, "1110000111", "wRRwwRRwwR");
    }

    /** S is 2: the rows of place 0 are 0, 1, 3, 3, 3, 2, 0, 1, 3. */
    private static void mixed() {
        run(new PredictorKinds(3, 2, 0), 0, "111100110", "wwwRwRRRw");
    }

    /** S is 2: the own histories are 0, 1, 2, 1, 2, 1, 3, 3, 3, 3; place 1 shares counters, not the history. */
    private static void own() {
        PredictorKinds x = new PredictorKinds(4, 2, 0);
        run(x, 0, "1010111111", "wRwRRwwRRR");
        run(x, 1, "10", "RR");
    }

    private static void chooser() {
        PredictorKinds x = new PredictorKinds(5, 2, 0);
        int[] rows = {1, 2, 2, 1};
        String outcomes = "1011";
        String answers = "wwww";
        for (int i = 0; i < rows.length; i++) {
            run(x, 0, outcomes.substring(i, i + 1), answers.substring(i, i + 1));
            CHECK.due("chooser after " + i, x.row(0), rows[i]);
        }
        CHECK.due("part", x.part(0), 2);
        run(x, 0, "1", "R");
    }

    /** Place 0 always with the history 0, S is 4: rows 1, 2, 3 and tags 0, 7, 14 of the tables. */
    private static void tagged() {
        PredictorKinds x = new PredictorKinds(6, 4, 0);
        x.mark();
        String outcomes = "1111110000001000";
        String answers = "wRRRRRwRRRRRwwRR";
        int[] parts = {0, 0, 0, 0, 0, 0, 1, 1, 1, 1, 1, 1, 2, 2, 2, 2};
        int[] rows = {0, 1, 2, 3, 3, 3, -1, -2, -3, -4, -4, -4, 0, -1, -2, -3};
        for (int i = 0; i < parts.length; i++) {
            run(x, 0, outcomes.substring(i, i + 1), answers.substring(i, i + 1));
            x.repair(0);
            CHECK.due("part after " + i, x.part(0), parts[i]);
            CHECK.due("row after " + i, x.row(0), rows[i]);
        }
        CHECK.due("kind 2 learnt only when none hit", x.row(17), 2);
        CHECK.due("another tag of the same row", x.part(64), -1);
        CHECK.due("the lowest two bits are not of the tag", x.part(3), -1);
    }

    /** Place 0 always with the history 0, S is 3: 9 more each time, until the sum is above 29. */
    private static void sums() {
        PredictorKinds x = new PredictorKinds(7, 3, 0);
        x.mark();
        String outcomes = "11111100000000";
        String answers = "RRRRRRwwwwwRRR";
        int[] rows = {9, 18, 27, 36, 36, 36, 27, 18, 9, 0, -9, -18, -27, -36};
        for (int i = 0; i < rows.length; i++) {
            run(x, 0, outcomes.substring(i, i + 1), answers.substring(i, i + 1));
            x.repair(0);
            CHECK.due("sum after " + i, x.row(0), rows[i]);
        }
        run(x, 0, "0", "R");
        CHECK.due("with the history 0", x.history(), 0);
        CHECK.due("sure and right learns nothing", x.row(0), -36);
        x.update(1, true);
        CHECK.due("with the history 1", x.row(0), -28);
        CHECK.due("another row", x.row(1), 7);
    }

    /** S is 3: place 8 has row 1 and tag 1, place 1 has row 1 and tag 0. */
    private static void loops() {
        PredictorKinds x = new PredictorKinds(8, 3, 0);
        run(x, 8, "10", "ww");
        CHECK.due("tag taken over", x.row(8), 0);
        run(x, 8, "110" + "110" + "110", "wRw" + "RRw" + "RRw");
        CHECK.due("trust", x.row(8), 2);
        run(x, 8, "110", "RRw");
        CHECK.due("trust", x.row(8), 3);
        run(x, 8, "110110", "RRRRRR");
        run(x, 1, "11", "RR");
        CHECK.due("another tag, taken", x.row(8), 3);
        run(x, 8, "111", "RRw");
        CHECK.due("above the length", x.row(8), 0);
        run(x, 8, "1110", "RRRw");
        CHECK.due("a new length", x.row(8), 0);
        run(x, 8, "1110", "RRRw");
        CHECK.due("that length again", x.row(8), 1);
        run(x, 8, "10", "Rw");
        CHECK.due("too short", x.row(8), 0);
        run(x, 1, "0", "w");
        CHECK.due("taken over", x.row(1), 0);
        CHECK.due("lost", x.row(8), -1);
    }

    private static void coin() {
        PredictorKinds x = new PredictorKinds(9, 1, 1);
        run(x, 0, "1111111111", COIN_OF_ONE);
        PredictorKinds y = new PredictorKinds(9, 1, -7);
        run(y, 12, "1111111111", COIN_OF_MINUS_SEVEN);
    }

    private static final String COIN_OF_ONE = "wwwRRRRwRw";
    private static final String COIN_OF_MINUS_SEVEN = "RwRRRRwwww";

    private static void earlyRight() {
        CHECK.sentence("whether what it says now (by the history, or that before the one that waits) is right; "
                + "then it learns.");
        PredictorKinds x = new PredictorKinds(0, 4, 0);
        x.early(true);
        x.told(8);
        x.told(12);
        CHECK.due("update", x.update(12, true), true);
        CHECK.due("history stays", x.history(), 3);
        CHECK.due("one waits", x.count(3), 1);
        CHECK.due("update of another place", x.update(99, false), false);
        CHECK.due("behind all", x.history(), 6);
        CHECK.due("one waits", x.count(3), 1);
        CHECK.due("update", x.update(8, true), true);
        CHECK.due("history stays", x.history(), 6);
        CHECK.due("none waits", x.count(3), 0);
        CHECK.due("none corrected", x.count(5), 0);
    }

    /** By the history before the one that waits: row 2 ^ 2 of kind 3. */
    private static void earlyWrong() {
        PredictorKinds x = new PredictorKinds(3, 3, 0);
        x.update(4, true);
        x.early(true);
        x.told(0);
        x.told(2);
        x.told(5);
        CHECK.due("history", x.history(), 8);
        CHECK.due("update", x.update(2, true), false);
        CHECK.due("history", x.history(), 5);
        CHECK.due("corrected", x.count(5), 1);
        CHECK.due("none waits", x.count(3), 0);
        CHECK.due("row 0 learnt", x.row(5), 2);
        CHECK.due("row 7 did not", x.row(2), 1);
        CHECK.due("update without one that waits", x.update(5, true), true);
        CHECK.due("history", x.history(), 11);
    }

    /** S is 3: places 0 and 9 share row 0. What was said then was right, what it says now is not. */
    private static void saidThenAndNow() {
        PredictorKinds x = new PredictorKinds(2, 3, 0);
        x.early(true);
        x.told(0);
        CHECK.due("update(9)", x.update(9, true), false);
        CHECK.due("update(0)", x.update(0, false), false);
        CHECK.due("corrected", x.count(5), 0);
        CHECK.due("wrong", x.count(1), 2);
        CHECK.due("history", x.history(), 1);
        x.told(0);
        x.update(9, true);
        x.told(4);
        CHECK.due("update(0), right now", x.update(0, true), true);
        CHECK.due("corrected", x.count(5), 1);
        CHECK.due("history", x.history(), 3);
        CHECK.due("none waits", x.count(3), 0);
    }

    private static void oldestOfItsPlace() {
        PredictorKinds x = new PredictorKinds(2, 3, 0);
        x.early(true);
        x.told(0);
        Check.updates(x, 9, "11");
        x.told(0);
        CHECK.due("history", x.history(), 7);
        x.update(0, true);
        CHECK.due("history is that before the oldest, and 1", x.history(), 1);
        CHECK.due("corrected", x.count(5), 1);
    }
}
