/** Promise 9: which part answers. */
public final class Promise09PartTest {
    private static final Check CHECK = new Check("promise 9");

    public static void main(String[] args) {
        kindsOfOnePart();
        chooser();
        tagged();
        loops();
        CHECK.end();
    }

    private static void kindsOfOnePart() {
        CHECK.sentence("else 0.");
        for (int kind : new int[] {0, 1, 2, 3, 4, 7, 9}) {
            PredictorKinds x = new PredictorKinds(kind, 2, 65536);
            CHECK.due("part of kind " + kind, x.part(0), 0);
            Check.updates(x, 0, "110110110110");
            for (int place = -8; place < 8; place++) {
                CHECK.due("part of kind " + kind, x.part(place), 0);
            }
        }
    }

    private static void chooser() {
        CHECK.sentence("of kind 5 2 or 3");
        PredictorKinds x = new PredictorKinds(5, 2, 0);
        CHECK.due("at first", x.part(0), 2);
        Check.updates(x, 0, "10");
        CHECK.due("kind 3 alone was right", x.part(0), 3);
        CHECK.due("another row", x.part(1), 2);
        Check.updates(x, 0, "11");
        CHECK.due("kind 2 alone was right", x.part(0), 2);
    }

    /** S is 4: with the history 0 a place's rows are place ^ 1, ^ 2, ^ 3, its tags place / 4, ^ 7, ^ 14. */
    private static void tagged() {
        CHECK.sentence("of kind 6 the table, or -1");
        PredictorKinds x = new PredictorKinds(6, 4, 0);
        x.mark();
        CHECK.due("none hits", x.part(20), -1);
        String outcomes = "101";
        for (int table = 0; table < 3; table++) {
            Check.updates(x, 20, outcomes.substring(table, table + 1));
            x.repair(0);
            CHECK.due("wrong: the next table", x.part(20), table);
        }
        Check.updates(x, 20, "0");
        x.repair(0);
        CHECK.due("none behind the last one", x.part(20), 2);
        CHECK.due("the same row, another tag", x.part(4), -1);
        CHECK.due("the same tag, another row", x.part(21), -1);
        CHECK.due("the same row, a tag of the same lowest 8 bits", x.part(20 + 1024), 2);
        x.update(0, true);
        CHECK.due("another history", x.part(20), -1);
    }

    private static void loops() {
        CHECK.sentence("of kind 8 1 for the loop, 0 for kind 2");
        PredictorKinds x = new PredictorKinds(8, 3, 0);
        Check.updates(x, 8, "0" + "10" + "10" + "10");
        CHECK.due("trust 2", x.part(8), 0);
        Check.updates(x, 8, "10");
        CHECK.due("trust 3", x.part(8), 1);
        CHECK.due("another tag", x.part(1), 0);
        CHECK.due("the same row, a tag of the same lowest 8 bits", x.part(8 + (1 << 11)), 1);
    }
}
