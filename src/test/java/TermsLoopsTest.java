/**
 * The edges of "Terms": kind 8. S is 3, unless told otherwise: places 8 and 1 have row 1 and the tags 1 and 0, so
 * that place 1 turns the counter of kind 2 alone as long as it is taken.
 */
public final class TermsLoopsTest {
    private static final Check CHECK = new Check("terms, loops");

    public static void main(String[] args) {
        noTagAtFirst();
        for (int size = 1; size <= 10; size++) {
            tagBits(size);
        }
        trustBounds();
        countIsTheLength();
        kindTwoAlways();
        belowTheLength();
        lengthZero();
        aboveTheLength();
        aboveTheLengthWithoutTrust();
        longLoops();
        shorterThanTheLength();
        anotherTag();
        CHECK.end();
    }

    private static PredictorKinds loop(String outcomes) {
        PredictorKinds x = new PredictorKinds(8, 3, 0);
        Check.updates(x, 8, outcomes);
        return x;
    }

    private static void noTagAtFirst() {
        CHECK.sentence("for each plain row a TAG (the place's bits S to S + 7 without sign; -1 at first)");
        for (int size = 1; size <= 10; size++) {
            PredictorKinds x = new PredictorKinds(8, size, 0);
            for (int tag = 0; tag < 256; tag++) {
                CHECK.due("S " + size + ", tag " + tag, x.row(tag << size), -1);
            }
            CHECK.due("S " + size + ", row(-1)", x.row(-1), -1);
        }
    }

    /** A bit that is turned in the row too is turned back there by the bit S below it. */
    private static void tagBits(int size) {
        CHECK.sentence("the place's bits S to S + 7 without sign");
        for (int place : new int[] {0, -1}) {
            PredictorKinds x = new PredictorKinds(8, size, 0);
            x.update(place, false);
            CHECK.due("S " + size + ", its own", x.row(place), 0);
            for (int bit = size; bit < 32; bit++) {
                int other = place ^ (1 << bit);
                boolean inTag = bit <= size + 7;
                if (bit < 2 * size) {
                    other ^= 1 << (bit - size);
                }
                CHECK.due("S " + size + ", bit " + bit + " turned", x.row(other), inTag ? -1 : 0);
            }
        }
    }

    private static void trustBounds() {
        CHECK.sentence("a LENGTH, a COUNT, a TRUST 0 .. 3 (all 0 at first)");
        PredictorKinds x = loop("0");
        CHECK.due("trust at first", x.row(8), 0);
        CHECK.rows(x, 8, "0000" + "1", 1, 2, 3, 3, 0);
    }

    /** The length becomes 1, is met five times, and then missed. */
    private static void countIsTheLength() {
        CHECK.sentence("if the count is the length, trust goes up by 1 (to 3), "
                + "else trust is 0 and the length is the count; then the count is 0.");
        PredictorKinds x = loop("0");
        CHECK.rows(x, 8, "10" + "10101010" + "10" + "0", 0, 0, 0, 1, 1, 2, 2, 3, 3, 3, 3, 3, 0);
    }

    private static void kindTwoAlways() {
        CHECK.sentence("Updated: kind 2, always.");
        PredictorKinds x = loop("0" + "000");
        CHECK.due("the loop answers", x.part(8), 1);
        Check.updates(x, 1, "1");
        CHECK.due("kind 2: 1", x.told(1), false);
        Check.updates(x, 1, "1");
        CHECK.due("kind 2: 2", x.told(1), true);
        Check.updates(x, 8, "0");
        CHECK.due("kind 2: 1, though the loop answered, and was right", x.told(1), false);
        Check.updates(x, 8, "1");
        CHECK.due("kind 2: 2, though the loop answered, and was wrong", x.told(1), true);
    }

    /** The length is 2; kind 2 would say taken all the time. */
    private static void belowTheLength() {
        CHECK.sentence("With its tag and trust 3: taken, if the count is below the length, else not.");
        PredictorKinds x = loop("0" + "110" + "110" + "110");
        CHECK.due("trust 2", x.row(8), 2);
        saysOfTheNext(x, true, true, true);
        CHECK.due("trust 3", x.row(8), 3);
        saysOfTheNext(x, true, true, false);
        Check.updates(x, 1, "11");
        saysOfTheNext(x, true, true, false);
    }

    /** Says of each one of 110 what is due, and goes round. */
    private static void saysOfTheNext(PredictorKinds x, boolean... due) {
        for (int i = 0; i < due.length; i++) {
            CHECK.due("told with the count " + i, x.told(8), due[i]);
            x.update(8, i < 2);
        }
    }

    private static void lengthZero() {
        CHECK.sentence("With its tag and trust 3: taken, if the count is below the length, else not. Else kind 2.");
        PredictorKinds x = loop("0" + "00");
        Check.updates(x, 1, "111");
        CHECK.due("trust 2", x.row(8), 2);
        CHECK.due("kind 2", x.told(8), true);
        CHECK.due("part", x.part(8), 0);
        Check.updates(x, 8, "0");
        Check.updates(x, 1, "1");
        CHECK.due("trust 3", x.row(8), 3);
        CHECK.due("the loop", x.told(8), false);
        CHECK.due("part", x.part(8), 1);
        CHECK.due("kind 2, with another tag", x.told(1), true);
        CHECK.due("part", x.part(1), 0);
    }

    /** Then not taken at once: the count is the length, 0, so that trust goes up. */
    private static void aboveTheLength() {
        CHECK.sentence("above the length when trust is above 0: trust, length and count are 0");
        for (int trust = 1; trust <= 3; trust++) {
            PredictorKinds x = loop("0" + "110");
            for (int i = 0; i < trust; i++) {
                Check.updates(x, 8, "110");
            }
            CHECK.rows(x, 8, "11" + "1" + "00", trust, trust, 0, 1, 2);
        }
    }

    /** The length is 2, 3 rounds make it 3. */
    private static void aboveTheLengthWithoutTrust() {
        CHECK.sentence("the count is one more; above 1000, or above the length when trust is above 0");
        PredictorKinds x = loop("0" + "110");
        CHECK.rows(x, 8, "1110" + "1110" + "1110", 0, 0, 0, 0, 0, 0, 0, 1, 1, 1, 1, 2);
    }

    /**
     * No run of 512 calls comes above 1000; but a count must not end sooner: with length and count 0 again, trust
     * would go up at once.
     */
    private static void longLoops() {
        CHECK.sentence("the count is one more; above 1000");
        for (int rounds = 1; rounds <= 506; rounds++) {
            PredictorKinds x = loop("0");
            for (int i = 0; i < rounds; i++) {
                x.update(8, true);
            }
            CHECK.rows(x, 8, "00", 0, 0);
        }
        PredictorKinds x = loop("0");
        for (int trust = 0; trust <= 2; trust++) {
            for (int i = 0; i < 168; i++) {
                x.update(8, true);
            }
            CHECK.rows(x, 8, "0", trust);
        }
    }

    private static void shorterThanTheLength() {
        CHECK.sentence("else trust is 0 and the length is the count; then the count is 0.");
        PredictorKinds x = loop("0" + "110" + "110" + "110" + "110");
        CHECK.rows(x, 8, "10" + "10" + "0" + "0", 3, 0, 0, 1, 0, 1);
    }

    /** Place 1 takes the row over: trust, length and count are 0, so that not taken again makes trust 1. */
    private static void anotherTag() {
        CHECK.sentence("With another tag: if not taken, its tag is taken over, all three are 0.");
        PredictorKinds x = loop("0" + "110" + "110" + "110" + "110" + "1");
        Check.updates(x, 1, "1111");
        CHECK.due("taken: not taken over", x.row(1), -1);
        CHECK.due("nothing is changed", x.row(8), 3);
        CHECK.rows(x, 8, "10", 3, 3);
        Check.updates(x, 8, "1");
        CHECK.rows(x, 1, "00", 0, 1);
        CHECK.due("lost", x.row(8), -1);
    }
}
