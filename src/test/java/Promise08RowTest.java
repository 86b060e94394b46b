/** Promise 8: what a place's row says in number. */
public final class Promise08RowTest {
    private static final Check CHECK = new Check("promise 8");

    public static void main(String[] args) {
        bits();
        counters();
        own();
        chooser();
        tagged();
        sums();
        loops();
        byTheHistoryNow();
        changesNothing();
        CHECK.end();
    }

    private static void bits() {
        CHECK.sentence("of kinds 0 and 9 0 or 1; 1, 2, 3 its bit or counter");
        PredictorKinds always = new PredictorKinds(0, 3, 0);
        Check.updates(always, 1, "000");
        CHECK.due("always", always.row(1), 1);
        PredictorKinds last = new PredictorKinds(1, 3, 0);
        CHECK.due("last at first", last.row(1), 0);
        Check.updates(last, 1, "11");
        CHECK.due("last", last.row(1), 1);
        Check.updates(last, 1, "0");
        CHECK.due("last", last.row(1), 0);
        CHECK.due("coin up", new PredictorKinds(9, 3, 0x7fff0000).row(1), 1);
        CHECK.due("coin down", new PredictorKinds(9, 3, 0xfffeffff).row(1), 0);
    }

    private static void counters() {
        CHECK.sentence("1, 2, 3 its bit or counter");
        PredictorKinds plain = new PredictorKinds(2, 3, 0);
        int[] due = {2, 3, 3, 2, 1, 0, 0, 1};
        String outcomes = "11100001";
        for (int i = 0; i < due.length; i++) {
            Check.updates(plain, 1, outcomes.substring(i, i + 1));
            CHECK.due("counter after " + i, plain.row(1), due[i]);
        }
        PredictorKinds mixed = new PredictorKinds(3, 2, 0);
        Check.updates(mixed, 0, "1");
        CHECK.due("mixed, row 1", mixed.row(0), 1);
        CHECK.due("mixed, row 0", mixed.row(1), 2);
        CHECK.due("mixed, row 0 of place 5", mixed.row(5), 2);
    }

    /** S is 2: after 100 the own history is 100 without its highest bit, which is 00 again. */
    private static void own() {
        CHECK.sentence("4 the counter");
        PredictorKinds x = new PredictorKinds(4, 2, 0);
        Check.updates(x, 0, "1");
        CHECK.due("counter 1", x.row(0), 1);
        CHECK.due("counter 0, by place 1", x.row(1), 2);
        Check.updates(x, 0, "00");
        CHECK.due("counter 0", x.row(0), 2);
        Check.updates(x, 1, "1");
        CHECK.due("counter 1, that place 0 set down", x.row(1), 0);
    }

    private static void chooser() {
        CHECK.sentence("5 the chooser");
        PredictorKinds x = new PredictorKinds(5, 2, 0);
        CHECK.due("at first", x.row(0), 1);
        Check.updates(x, 0, "10");
        CHECK.due("kind 3 alone was right", x.row(0), 2);
        CHECK.due("another row", x.row(1), 1);
    }

    private static void tagged() {
        CHECK.sentence("6 the sum of the table that answers, or the counter when none hits");
        PredictorKinds x = new PredictorKinds(6, 4, 0);
        x.mark();
        CHECK.due("the counter", x.row(0), 1);
        x.update(0, false);
        CHECK.due("the counter", x.row(0), 0);
        x.update(0, true);
        x.repair(0);
        CHECK.due("table 0 has the history 0", x.part(0), 0);
        x.update(0, true);
        x.repair(0);
        CHECK.due("its sum", x.row(0), 1);
    }

    /** S is 3, three times taken with the history 0: weights 3 and -3. */
    private static void sums() {
        CHECK.sentence("7 the sum");
        PredictorKinds x = new PredictorKinds(7, 3, 0);
        x.mark();
        for (int i = 0; i < 3; i++) {
            x.update(0, true);
            x.repair(0);
        }
        int[] due = {27, 21, 15, 9, 3, -3, -9, -15, -21, -21};
        for (int i = 0; i < due.length; i++) {
            CHECK.due("with " + i + " outcomes taken", x.row(0), due[i]);
            x.update(1, true);
        }
    }

    private static void loops() {
        CHECK.sentence("8 the trust with its tag, else -1.");
        PredictorKinds x = new PredictorKinds(8, 3, 0);
        CHECK.due("no tag", x.row(8), -1);
        Check.updates(x, 8, "1");
        CHECK.due("no tag yet", x.row(8), -1);
        Check.updates(x, 8, "0");
        CHECK.due("its tag", x.row(8), 0);
        CHECK.due("another tag of its row", x.row(1), -1);
        int[] due = {1, 2, 3, 3};
        for (int trust : due) {
            Check.updates(x, 8, "0");
            CHECK.due("trust", x.row(8), trust);
        }
        Check.updates(x, 8, "1");
        CHECK.due("above the length", x.row(8), 0);
    }

    /** S is 3: row 0 of kind 3 has learnt; what is told early turns the row of a place at once. */
    private static void byTheHistoryNow() {
        CHECK.sentence("What a place's row says in number");
        PredictorKinds x = new PredictorKinds(3, 3, 0);
        x.update(0, true);
        x.early(true);
        CHECK.due("history 1", x.row(1), 2);
        x.told(3);
        CHECK.due("history 2", x.row(1), 1);
        CHECK.due("history 2", x.row(2), 2);
        CHECK.due("history 2", x.row(Integer.MIN_VALUE + 2), 2);
    }

    private static void changesNothing() {
        CHECK.sentence("What a place's row says in number");
        for (int kind = 0; kind < 10; kind++) {
            PredictorKinds x = new PredictorKinds(kind, 3, 7);
            x.early(true);
            int first = x.row(-5);
            CHECK.due("again", x.row(-5), first);
            CHECK.due("history", x.history(), 0);
            CHECK.due("waiting", x.count(3), 0);
        }
    }
}
