/**
 * The end of "Terms": each call that may be refused tells one exception, so that it is always this one, of just its
 * class, whatever else could be refused; and a call that is refused changes nothing.
 */
public final class TermsExceptionsTest {
    private static final Check CHECK = new Check("terms, exceptions");
    private static final int[] ENDS = {Integer.MIN_VALUE, -65, -33, -1, 0, 1, 17, 32, 33, 64, 65, Integer.MAX_VALUE};

    public static void main(String[] args) {
        CHECK.sentence("Of several exceptions the first one told is thrown.");
        for (int kind = 0; kind < 10; kind++) {
            refused(kind, allMarks(kind), 32);
            refused(kind, noMarks(kind), 0);
            neverRefused(kind);
        }
        CHECK.end();
    }

    /** All 32 marks and all 64 waiting ones: whatever can be full is full. */
    private static PredictorKinds allMarks(int kind) {
        PredictorKinds x = noMarks(kind);
        for (int i = 0; i < 32; i++) {
            x.mark();
        }
        for (int i = 0; i < 64; i++) {
            x.told(4 * i);
        }
        return x;
    }

    private static PredictorKinds noMarks(int kind) {
        PredictorKinds x = new PredictorKinds(kind, 4, 65536);
        Check.updates(x, 8, "1011");
        x.early(true);
        return x;
    }

    private static void refused(int kind, PredictorKinds x, int marks) {
        String before = state(x);
        for (int again = 0; again < 2; again++) {
            if (marks == 32) {
                CHECK.throwing("kind " + kind + ", mark()", UnsupportedOperationException.class, x::mark);
            }
            for (int n : new int[] {0, 17, -1, Integer.MIN_VALUE, Integer.MAX_VALUE}) {
                CHECK.throwing("kind " + kind + ", several(-1, " + n + ")", IllegalArgumentException.class,
                        () -> x.several(-1, n));
            }
            for (int mark : new int[] {-1, marks, marks + 1, Integer.MIN_VALUE, Integer.MAX_VALUE}) {
                CHECK.throwing("kind " + kind + ", repair(" + mark + ")", IndexOutOfBoundsException.class,
                        () -> x.repair(mark));
            }
        }
        String after = state(x);
        CHECK.due("kind " + kind + ", before: " + before + ", after: " + after, before.equals(after), true);
    }

    /** All that the calls which change nothing tell. */
    private static String state(PredictorKinds x) {
        StringBuilder text = new StringBuilder();
        text.append(x.history()).append(' ').append(x.storage());
        for (int what = 0; what < 8; what++) {
            text.append(' ').append(x.count(what));
        }
        for (int place = 0; place < 20; place++) {
            text.append(' ').append(x.row(place)).append(' ').append(x.part(place));
        }
        return text.append(' ').append(x.several(0, 16)).toString();
    }

    /** No other call is ever refused, with any int. */
    private static void neverRefused(int kind) {
        for (int size : ENDS) {
            for (int place : ENDS) {
                PredictorKinds x = new PredictorKinds(kind, size, place);
                x.early(place > 0);
                x.told(place);
                x.update(place, size > 0);
                x.told(size);
                x.row(place);
                x.part(place);
                x.several(place, 1);
                x.several(place, 16);
                x.storage();
                CHECK.due("kind " + kind + ", S at least 1", x.count(7) >= 1, true);
                CHECK.due("kind " + kind + ", S at most 10", x.count(7) <= 10, true);
                CHECK.due("kind " + kind + ", updates", x.count(0), 1);
                CHECK.due("kind " + kind + ", mark", x.mark(), 0);
                x.repair(0);
            }
        }
    }
}
