/** The edges of "Terms": kind 7. S is 3; place 1 has a plain row of its own and only turns the history of place 0. */
public final class TermsSumsTest {
    private static final Check CHECK = new Check("terms, sums");

    public static void main(String[] args) {
        zeroAtFirst();
        zeroOrMore();
        learnsUpTo29(true);
        learnsUpTo29(false);
        learnsWhenWrong();
        eachWeight();
        eightOutcomes();
        weightBounds();
        CHECK.end();
    }

    private static PredictorKinds atMark() {
        PredictorKinds x = new PredictorKinds(7, 3, 0);
        x.mark();
        return x;
    }

    /** One update of place 0 behind the outcomes of place 1; then the history is 0 again. */
    private static void updateBehind(PredictorKinds x, String before, boolean taken) {
        Check.updates(x, 1, before);
        x.update(0, taken);
        x.repair(0);
    }

    private static void zeroAtFirst() {
        CHECK.sentence("for each plain row nine WEIGHTS, -64 .. 63, 0 at first");
        PredictorKinds x = new PredictorKinds(7, 3, 0);
        for (int row = 0; row < 8; row++) {
            CHECK.due("row(" + row + ")", x.row(row), 0);
        }
        Check.updates(x, 1, "11111111");
        CHECK.due("with eight taken ones", x.row(0), 0);
    }

    /** Learnt with four outcomes of eight taken: with the history 0 five weights count one way and four the other. */
    private static void zeroOrMore() {
        CHECK.sentence("0 or more: taken.");
        CHECK.due("0", atMark().told(0), true);
        PredictorKinds x = atMark();
        updateBehind(x, "1111", false);
        CHECK.due("row(0)", x.row(0), -1);
        CHECK.due("-1", x.told(0), false);
        PredictorKinds y = atMark();
        updateBehind(y, "1111", true);
        CHECK.due("row(0)", y.row(0), 1);
        CHECK.due("1", y.told(0), true);
        updateBehind(y, "1111", false);
        CHECK.due("row(0)", y.row(0), 0);
        CHECK.due("0 again", y.told(0), true);
    }

    /** 9, 18, 27; 7 back with one taken one before; 9 more: 29. With 1 more for four taken ones in between: 30. */
    private static void learnsUpTo29(boolean taken) {
        CHECK.sentence("When that was wrong, or the sum without sign is 29 or less");
        int sign = taken ? 1 : -1;
        PredictorKinds x = atMark();
        twenty(x, taken);
        CHECK.due("row(0)", x.row(0), 20 * sign);
        CHECK.due("update", x.update(0, taken), true);
        x.repair(0);
        CHECK.due("row(0)", x.row(0), 29 * sign);
        CHECK.due("update", x.update(0, taken), true);
        x.repair(0);
        CHECK.due("29 learns", x.row(0), 38 * sign);

        PredictorKinds y = atMark();
        twenty(y, taken);
        updateBehind(y, "1111", taken);
        CHECK.due("row(0)", y.row(0), 21 * sign);
        updateBehind(y, "", taken);
        CHECK.due("row(0)", y.row(0), 30 * sign);
        CHECK.due("update", y.update(0, taken), true);
        y.repair(0);
        CHECK.due("30 does not", y.row(0), 30 * sign);
    }

    private static void twenty(PredictorKinds x, boolean taken) {
        for (int i = 0; i < 3; i++) {
            updateBehind(x, "", taken);
        }
        updateBehind(x, "1", !taken);
    }

    private static void learnsWhenWrong() {
        CHECK.sentence("When that was wrong");
        PredictorKinds x = atMark();
        CHECK.rowsAtMark(x, 0, "11111" + "000000000" + "11111",
                9, 18, 27, 36, 36, 27, 18, 9, 0, -9, -18, -27, -36, -36, -27, -18, -9, 0, 9);
    }

    /** Learnt once with a history: 9 with it, 7 with one bit of it turned, 5 with two, as the branch was. */
    private static void eachWeight() {
        CHECK.sentence("the first weight goes up by 1 if taken, else down; "
                + "weight k + 1 up when bit k is as the branch, else down; within bounds.");
        String history = "10110010";
        for (int sign : new int[] {1, -1}) {
            PredictorKinds x = atMark();
            updateBehind(x, history, sign == 1);
            sumBehind(x, history, 9 * sign);
            for (int bit = 0; bit < 8; bit++) {
                String once = turned(history, bit);
                sumBehind(x, once, 7 * sign);
                sumBehind(x, turned(once, (bit + 3) % 8), 5 * sign);
            }
        }
    }

    private static String turned(String outcomes, int index) {
        char other = outcomes.charAt(index) == '1' ? '0' : '1';
        return outcomes.substring(0, index) + other + outcomes.substring(index + 1);
    }

    private static void sumBehind(PredictorKinds x, String before, int due) {
        Check.updates(x, 1, before);
        CHECK.due("row(0) behind " + before, x.row(0), due);
        x.repair(0);
    }

    /** Learnt once, taken, with the history 0: each weight is -1 but for the first one. */
    private static void eightOutcomes() {
        CHECK.sentence("the sum of the first one, and for k from 0 to 7 of weight k + 1, "
                + "if bit k of the history is 1, else of it with the other sign");
        PredictorKinds x = new PredictorKinds(7, 3, 0);
        x.update(0, true);
        for (int bit = 0; bit < 32; bit++) {
            CHECK.due("bit " + bit + " of the history alone", x.row(0), bit < 8 ? 7 : 9);
            x.update(1, false);
        }
        CHECK.due("history", x.history(), 0);
        CHECK.due("none", x.row(0), 9);
    }

    /**
     * T and N are updates of place 0, t and n of place 1. Searched for, outside of this project's code, so that
     * weights go beyond 63 four times and below -64 twice.
     */
    private static final String TO_THE_BOUNDS = ""
            + "NNNNttNNNtNNNNttNtNNNNNttNtttTTnTnTTTTTTnnnTTnNtNNttNtNNNNtttNtNNtTTTTTTnnTTnTTnNNNtNtNttN"
            + "NtNtNNttNNtNttTTtTnTTnnTTTTnTTTnnTTTnTnNNNtNtNttNNNtNtNttNNtNNtNttNNttTTnTnTnTTTTnnTTTnnNt"
            + "NtNttNNNtNtNttNNNttNNttNtTtNNTTNTTTNNTTNTTTNNTTNTTntNTtNTTNTNnttTTNTNtTTTTNTNTTTTTNTNnTTTT"
            + "tTNNnnTTTTNttNnnNNttNttttNTTtTTTTNTTTTTTTNnntnNNttttTttNnTntnNNtNNtNtNNNtNNtNtttTttTNnnTTT"
            + "TTttNnTntnNNtNNtNtttTttTNTnTTTTTtTNTnnnNtNtNNtttTtTtNTnnnNtNtNttttTtTNnTnnNtNttttttTNNNNtN"
            + "tN";

    private static void weightBounds() {
        CHECK.sentence("nine WEIGHTS, -64 .. 63");
        PredictorKinds x = new PredictorKinds(7, 3, 0);
        for (char c : TO_THE_BOUNDS.toCharArray()) {
            x.update(c == 'T' || c == 'N' ? 0 : 1, c == 'T' || c == 't');
        }
        int[] due = {-148, -148, -176, -156, -76, -184, -88, -200, -200};
        for (int i = 0; i < due.length; i++) {
            CHECK.due("sum at the bounds, history " + x.history(), x.row(0), due[i]);
            x.update(1, false);
        }
    }
}
