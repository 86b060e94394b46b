/** The edges of "Terms": tables, places, the history, the plain row. */
public final class TermsTablesTest {
    private static final Check CHECK = new Check("terms, tables");

    public static void main(String[] args) {
        for (int size = 1; size <= 10; size++) {
            rowsOfATable(size);
            lowestBits(size);
            plainRow(size);
        }
        placesAtTheEnds();
        historyOf32();
        CHECK.end();
    }

    /** Places below 2 to the power S have a plain row each; the next place has row 1 again. */
    private static void rowsOfATable(int size) {
        CHECK.sentence("TABLES have 2 to the power S rows.");
        int rows = 1 << size;
        PredictorKinds x = new PredictorKinds(1, size, 0);
        x.update(rows - 1, true);
        for (int bit = 0; bit < size; bit++) {
            CHECK.due("S " + size + ", the last row without bit " + bit, x.told(rows - 1 - (1 << bit)), false);
        }
        CHECK.due("S " + size + ", the last row", x.told(rows - 1), true);
        x.update(0, true);
        CHECK.due("S " + size + ", row 0 by a place beyond the table", x.told(rows + 1), true);
    }

    /** Kind 3 with the history 0 has row M(place), with the history 1 row M(place exclusive or 1). */
    private static void lowestBits(int size) {
        CHECK.sentence("M(v) is v's lowest S bits.");
        int rows = 1 << size;
        PredictorKinds x = new PredictorKinds(3, size, 0);
        x.update(0, true);
        for (int bit = 0; bit < 32; bit++) {
            CHECK.due("S " + size + ", place 1 with bit " + bit + " turned", x.row(1 ^ (1 << bit)), bit < size ? 1 : 2);
        }
        x.early(true);
        for (int bit = 1; bit <= 31; bit++) {
            int untouched = x.history() ^ (rows - 1);
            CHECK.due("S " + size + ", a row that has not learnt", x.told(untouched), false);
            CHECK.due("S " + size + ", bit " + bit + " of the history alone", x.row(0), bit < size ? 1 : 2);
        }
    }

    private static void plainRow(int size) {
        CHECK.sentence("THE PLAIN ROW of a place is M(place exclusive or (place without sign moved down by S)).");
        PredictorKinds x = new PredictorKinds(1, size, 0);
        x.update(0, true);
        for (int bit = 0; bit < 32; bit++) {
            boolean same = bit >= 2 * size;
            CHECK.due("S " + size + ", bit " + bit + " alone", x.told(1 << bit), same);
        }
        for (int bit = 0; bit < size; bit++) {
            CHECK.due("S " + size + ", bit " + bit + " twice", x.told(1 << bit | 1 << (bit + size)), true);
        }
    }

    /** S is 3: -1 is row 7 exclusive or 7, the least int row 0, the greatest one row 7 exclusive or 7, -8 row 7. */
    private static void placesAtTheEnds() {
        CHECK.sentence("PLACES are ints");
        int[] places = {-1, Integer.MIN_VALUE, Integer.MAX_VALUE, -8, Integer.MIN_VALUE + 7};
        int[] rows = {0, 0, 0, 7, 7};
        for (int kind = 1; kind <= 2; kind++) {
            for (int i = 0; i < places.length; i++) {
                PredictorKinds x = new PredictorKinds(kind, 3, 0);
                x.update(places[i], true);
                for (int row = 0; row < 8; row++) {
                    CHECK.due("place " + places[i] + " in row " + row, x.told(row), row == rows[i]);
                }
            }
        }
    }

    private static void historyOf32() {
        CHECK.sentence("THE HISTORY is a row of 32 outcomes, the latest one in the lowest bit (1: taken), 0 at first.");
        PredictorKinds x = new PredictorKinds(2, 3, 0);
        CHECK.due("at first", x.history(), 0);
        x.update(5, true);
        for (int more = 0; more < 32; more++) {
            CHECK.due("a taken one and " + more + " more", x.history(), 1 << more);
            x.update(5, false);
        }
        CHECK.due("the 33rd pushes the first one out", x.history(), 0);
        for (int i = 0; i < 33; i++) {
            x.update(5, true);
        }
        CHECK.due("33 taken ones", x.history(), -1);
        x.update(5, false);
        CHECK.due("and one that is not", x.history(), -2);
    }
}
