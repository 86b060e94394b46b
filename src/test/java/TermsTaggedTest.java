/**
 * The edges of "Terms": kind 6. Unless told otherwise S is 4 and all updates are made with the history 0 (mark 0):
 * places 0, 64, 128, .. have the same rows in all three tables, and tags and plain rows of their own.
 */
public final class TermsTaggedTest {
    private static final Check CHECK = new Check("terms, tagged");

    public static void main(String[] args) {
        noTagAtFirst();
        for (int size = 1; size <= 10; size++) {
            rowsAndTags(size);
            lengths(size);
            folds(size);
        }
        foldsOfLastBits();
        sumBounds();
        sumUpAndDown();
        sumSays();
        useBounds();
        useNotBelowZero();
        otherIsTheTableBefore();
        useStaysWhenAlike();
        firstFreeTable();
        noneFree();
        onlyBehindTheOneThatAnswered();
        noneBehindTheLastOne();
        kindTwoLearnsWhenNoneHits();
        CHECK.end();
    }

    private static PredictorKinds atMark(int size) {
        PredictorKinds x = new PredictorKinds(6, size, 0);
        x.mark();
        return x;
    }

    private static void parts(PredictorKinds x, int... placesAndParts) {
        for (int i = 0; i < placesAndParts.length; i += 2) {
            CHECK.due("part(" + placesAndParts[i] + ")", x.part(placesAndParts[i]), placesAndParts[i + 1]);
        }
    }

    private static void noTagAtFirst() {
        CHECK.sentence("a row has a tag (-1 at first)");
        for (int size = 1; size <= 10; size++) {
            PredictorKinds x = new PredictorKinds(6, size, 0);
            for (int tag = 0; tag < 256; tag++) {
                CHECK.due("S " + size + ", tag " + tag, x.part(4 * tag), -1);
            }
            parts(x, -1, -1, Integer.MAX_VALUE, -1, Integer.MIN_VALUE, -1);
        }
    }

    /** Bits 0 to S - 1 of a place are in its row, bits 2 to 9 in its tag; a bit in neither makes no difference. */
    private static void rowsAndTags(int size) {
        CHECK.sentence("row M(place exclusive or the history folded to S bits exclusive or (t + 1))");
        bitsTurned(size, 0, size - 1, -1);
        CHECK.sentence("TAG the lowest 8 bits of (place moved down by 2 without sign, "
                + "exclusive or the history folded to 8, exclusive or 7 * t)");
        bitsTurned(size, 2, 9, -1);
        CHECK.sentence("A row HITS when its tag is the place's.");
        bitsTurned(size, size, 1, 0);
        bitsTurned(size, 10, 31, 0);
    }

    private static void bitsTurned(int size, int firstBit, int lastBit, int due) {
        for (int place : new int[] {0, -1}) {
            PredictorKinds x = atMark(size);
            Check.updatesAtMark(x, place, "1");
            CHECK.due("S " + size + ", its own", x.part(place), 0);
            for (int bit = firstBit; bit <= lastBit; bit++) {
                CHECK.due("S " + size + ", bit " + bit + " turned", x.part(place ^ (1 << bit)), due);
            }
        }
    }

    /** All three tables are claimed by place 0 with the history 0; a bit of the history ends those that look so far. */
    private static void lengths(int size) {
        CHECK.sentence("tables 0, 1, 2 by histories of 4, 8, 16 outcomes");
        for (int bit = 0; bit < 32; bit++) {
            PredictorKinds x = threeTables(size);
            goTo(x, size, 1 << bit);
            int due = bit >= 16 ? 2 : bit >= 8 ? 1 : bit >= 4 ? 0 : -1;
            CHECK.due("S " + size + ", bit " + bit + " of the history", x.part(0), due);
        }
    }

    /** Histories that fold to 0 in 8 bits: table 2 hits when they do so in S bits too. */
    private static void folds(int size) {
        CHECK.sentence("the exclusive or of its bits b * 0 to b * 1 - 1, b * 1 to .., "
                + "as far as there are (of the low h ones).");
        int[] histories = {0x0101, 0x0909, 0x2121, 0x4141, 0x8181};
        String[] sizesThatHit = {"1 2 4 8 ", "1 2 3 4 8 ", "1 2 4 5 8 ", "1 2 3 4 6 8 ", "1 2 4 7 8 "};
        for (int i = 0; i < histories.length; i++) {
            PredictorKinds x = threeTables(size);
            goTo(x, size, histories[i]);
            boolean hits = sizesThatHit[i].contains(size + " ");
            CHECK.due("S " + size + ", history " + histories[i], x.part(0), hits ? 2 : -1);
        }
    }

    /**
     * 0x4050 folds to 64 in 10 bits and to 64 / 4 in 8; 0xe460 to 18 in 9 bits and to 132 in 8. Place 0 still has
     * table 0, because the latest four outcomes are 0.
     */
    private static void foldsOfLastBits() {
        CHECK.sentence("as far as there are (of the low h ones).");
        PredictorKinds ten = threeTables(10);
        goTo(ten, 10, 0x4050);
        parts(ten, 64, 2, 0, 0, 64 + 16, -1);
        PredictorKinds nine = threeTables(9);
        goTo(nine, 9, 0xe460);
        parts(nine, 530, 2, 0, 0, 18, -1);
    }

    private static PredictorKinds threeTables(int size) {
        PredictorKinds x = atMark(size);
        Check.updatesAtMark(x, 0, "101");
        CHECK.due("S " + size + ", table 2 with the history 0", x.part(0), 2);
        return x;
    }

    /**
     * Builds a history by what is told early, which learns nothing: kind 2 says taken of the plain row 0 and not of
     * row 1, and both places have the tag 255, which no table has.
     */
    private static void goTo(PredictorKinds x, int size, int history) {
        int taken = placeWith(size, 0);
        int not = placeWith(size, 1);
        x.early(true);
        for (int bit = 31 - Integer.numberOfLeadingZeros(history); bit >= 0; bit--) {
            x.told((history >>> bit & 1) == 1 ? taken : not);
        }
        x.early(false);
        CHECK.due("S " + size + ", the history to be", x.history(), history);
    }

    private static int placeWith(int size, int plainRow) {
        for (int high = 0; high < 1024; high++) {
            for (int low = 0; low < 4; low++) {
                int place = high << 10 | 255 << 2 | low;
                if (((place ^ place >> size) & (1 << size) - 1) == plainRow) {
                    return place;
                }
            }
        }
        throw new AssertionError();
    }

    private static void sumBounds() {
        CHECK.sentence("a SUM -4 .. 3");
        PredictorKinds x = atMark(4);
        CHECK.rowsAtMark(x, 0, "1" + "111111", 0, 1, 2, 3, 3, 3, 3);
        CHECK.rowsAtMark(x, 0, "0" + "000000", -1, -2, -3, -4, -4, -4, -4);
        parts(x, 0, 1);
    }

    /** With the history 16 table 0 still answers, while table 1 has been claimed with the history 0. */
    private static void sumUpAndDown() {
        CHECK.sentence("Else the hit's sum goes up or down by 1 within its bounds");
        PredictorKinds x = atMark(4);
        CHECK.rowsAtMark(x, 0, "111", 0, 1, 2);
        Check.updatesAtMark(x, 0, "0");
        goTo(x, 4, 16);
        parts(x, 0, 0);
        CHECK.due("down from 2", x.row(0), 1);
    }

    private static void sumSays() {
        CHECK.sentence("The answer is that of the last table that hits (sum 0 or more: taken), else of kind 2");
        PredictorKinds x = atMark(4);
        CHECK.due("kind 2", x.told(0), false);
        CHECK.rowsAtMark(x, 0, "1", 0);
        CHECK.due("sum 0", x.told(0), true);
        CHECK.rowsAtMark(x, 0, "0", -1);
        CHECK.due("sum -1", x.told(0), false);
        CHECK.rowsAtMark(x, 0, "1", 0);
        CHECK.due("the last of three that hit", x.told(0), true);
    }

    /**
     * Place 0 gets table 2 with a use above 0; place 64 takes it over only when it has been wrong once for each use
     * and once more.
     */
    private static void useBounds() {
        CHECK.sentence("a USE 0 .. 3 (both 0 at first)");
        for (int rights = 0; rights <= 5; rights++) {
            PredictorKinds x = atMark(4);
            Check.updatesAtMark(x, 0, "1010" + "00000".substring(0, rights));
            Check.updatesAtMark(x, 64, "10");
            parts(x, 0, 2, 64, 1);
            int use = Math.min(3, rights);
            for (int wrongs = 0; wrongs < use; wrongs++) {
                Check.updatesAtMark(x, 64, wrongs % 2 == 0 ? "1" : "0");
                parts(x, 0, 2, 64, 1);
            }
            Check.updatesAtMark(x, 64, use % 2 == 0 ? "1" : "0");
            parts(x, 0, -1, 64, 2);
        }
    }

    /** With the history 16 table 0 alone hits, says not and is wrong, kind 2 says taken: its use stays 0. */
    private static void useNotBelowZero() {
        CHECK.sentence("its use goes up, when the answer was right, else down, within its bounds.");
        PredictorKinds x = atMark(4);
        Check.updatesAtMark(x, 0, "10");
        goTo(x, 4, 16);
        parts(x, 0, 0);
        CHECK.due("what table 0 says", x.told(0), false);
        Check.updatesAtMark(x, 0, "1");
        Check.updatesAtMark(x, 64, "1");
        parts(x, 64, 0);
    }

    /** Tables 0 and 1 say not, kind 2 says taken: the other of table 1 is table 0, alike, so that its use stays 0. */
    private static void otherIsTheTableBefore() {
        CHECK.sentence("the OTHER that of the last one before it that hits, else of kind 2.");
        PredictorKinds x = atMark(4);
        Check.updatesAtMark(x, 0, "10" + "000");
        parts(x, 0, 1);
        CHECK.due("kind 2", x.row(17), 2);
        Check.updatesAtMark(x, 64, "10");
        parts(x, 64, 1, 0, -1);
    }

    private static void useStaysWhenAlike() {
        CHECK.sentence("if answer and other are not alike its use goes up");
        PredictorKinds x = atMark(4);
        Check.updatesAtMark(x, 0, "11111");
        parts(x, 0, 0);
        Check.updatesAtMark(x, 64, "1");
        parts(x, 64, 0, 0, -1);
    }

    /**
     * Places 0, 128, 192 have tables 0, 1, 2 of the same rows, each with use 1: places 17, 8, 12 set the counters of
     * their plain rows down again, so that the table's answer is not that of kind 2, and right.
     */
    private static PredictorKinds threeInUse() {
        PredictorKinds x = atMark(4);
        int[] places = {0, 128, 192};
        int[] sharers = {17, 8, 12};
        for (int table = 0; table < 3; table++) {
            Check.updatesAtMark(x, places[table], "1");
            parts(x, places[table], table);
            Check.updatesAtMark(x, sharers[table], "0");
            Check.updatesAtMark(x, places[table], "1");
        }
        parts(x, 0, 0, 128, 1, 192, 2);
        return x;
    }

    private static void firstFreeTable() {
        CHECK.sentence("of the tables behind the one that answered (all, when kind 2 did) "
                + "the first one whose row has use 0 gets the tag, sum 0 if taken, else -1");
        PredictorKinds x = threeInUse();
        parts(x, 64, -1);
        PredictorKinds free = atMark(4);
        Check.updatesAtMark(free, 64, "1");
        parts(free, 64, 0);
        CHECK.due("its sum when taken", free.row(64), 0);
        CHECK.due("kind 2 of its plain row", free.row(4), 2);
        Check.updatesAtMark(free, 4, "0");
        parts(free, 4, 0);
        CHECK.due("its sum when not", free.row(4), -1);
    }

    /** Place 256 is wrong: all three uses go down to 0; then it gets one table after the other. */
    private static void noneFree() {
        CHECK.sentence("when none has, all these rows' uses go down by 1.");
        PredictorKinds x = threeInUse();
        Check.updatesAtMark(x, 256, "1");
        parts(x, 256, -1, 0, 0, 128, 1, 192, 2);
        Check.updatesAtMark(x, 256, "0");
        parts(x, 256, 0, 0, -1, 128, 1, 192, 2);
        Check.updatesAtMark(x, 256, "1");
        parts(x, 256, 1, 128, -1, 192, 2);
        Check.updatesAtMark(x, 256, "0");
        parts(x, 256, 2, 192, -1);
    }

    /** Table 1 is wrong and loses its own use for it; table 2 loses one because it is not free; table 0 keeps its. */
    private static void onlyBehindTheOneThatAnswered() {
        CHECK.sentence("When the answer was wrong: of the tables behind the one that answered");
        PredictorKinds x = threeInUse();
        Check.updatesAtMark(x, 128, "0");
        parts(x, 0, 0, 128, 1, 192, 2);
        Check.updatesAtMark(x, 320, "1");
        parts(x, 320, 1, 0, 0, 128, -1, 192, 2);
        CHECK.rowsAtMark(x, 320, "0", -1);
        parts(x, 320, 2, 0, 0, 192, -1);
    }

    private static void noneBehindTheLastOne() {
        CHECK.sentence("of the tables behind the one that answered");
        PredictorKinds x = threeInUse();
        Check.updatesAtMark(x, 192, "0");
        parts(x, 0, 0, 128, 1, 192, 2);
        Check.updatesAtMark(x, 320, "1");
        parts(x, 320, 2, 0, 0, 128, 1, 192, -1);
    }

    /** Place 17 has the plain row of place 0. */
    private static void kindTwoLearnsWhenNoneHits() {
        CHECK.sentence("Updated: kind 2, when none hits.");
        PredictorKinds x = atMark(4);
        CHECK.due("at first", x.row(17), 1);
        Check.updatesAtMark(x, 0, "1");
        CHECK.due("none hit", x.row(17), 2);
        Check.updatesAtMark(x, 0, "1110001");
        CHECK.due("a table hit each time", x.row(17), 2);
        parts(x, 17, -1);
    }
}
