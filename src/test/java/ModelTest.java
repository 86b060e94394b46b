import java.util.Random;
import java.util.function.IntSupplier;

/** Long runs of calls of all kinds and sizes: every answer must be that of the model. */
public final class ModelTest {
    private static final Check CHECK = new Check("model");
    private static final int RUNS_OF_EACH = 40;
    private static final int CALLS = 505;

    private final Random random;
    private final PredictorKinds x;
    private final Model model;
    private final String name;
    private final int[] places;
    private final int shape;
    private final int looseness;
    private final boolean rewinds;
    private int calls;

    private ModelTest(int kind, int size, int run) {
        random = new Random(1000003L * kind + 1009L * size + run);
        int seed = random.nextInt();
        x = new PredictorKinds(kind, size, seed);
        model = new Model(kind, size, seed);
        name = "kind " + kind + ", S " + size + ", run " + run;
        places = new int[1 + random.nextInt(run % 2 == 0 ? 3 : 12)];
        int spread = random.nextInt(5);
        for (int i = 0; i < places.length; i++) {
            places[i] = somePlace(spread, i, size);
        }
        shape = run % 4;
        rewinds = run % 3 == 2;
        looseness = random.nextInt(3);
    }

    public static void main(String[] args) {
        for (int kind = 0; kind < 10; kind++) {
            for (int size = 1; size <= 10; size++) {
                for (int run = 0; run < RUNS_OF_EACH; run++) {
                    new ModelTest(kind, size, run).play();
                }
            }
        }
        CHECK.end();
    }

    private int somePlace(int spread, int i, int size) {
        switch (spread) {
            case 0: return 64 + 4 * i;
            case 1: return random.nextInt();
            case 2: return random.nextInt(64) << random.nextInt(27);
            case 3: return i << Math.min(Math.max(size, 2), 9);
            default: return (i % 2 == 0 ? Integer.MIN_VALUE : Integer.MAX_VALUE) + (i % 2 == 0 ? i : -i);
        }
    }

    private void play() {
        if (rewinds) {
            same("mark()", x::mark, model::mark);
        }
        while (calls < CALLS) {
            int place = places[random.nextInt(places.length)];
            int choice = random.nextInt(100);
            if (rewinds && random.nextInt(3) > 0) {
                same("repair(0)", () -> x.repair(0), () -> model.repair(0));
            }
            if (choice < 50) {
                boolean taken = outcome(place);
                same("update(" + place + ", " + taken + ")",
                        () -> bit(x.update(place, taken)), () -> bit(model.update(place, taken)));
            } else if (choice < 72) {
                same("told(" + place + ")", () -> bit(x.told(place)), () -> bit(model.told(place)));
            } else {
                look(place, choice);
            }
        }
    }

    private void look(int place, int choice) {
        if (choice < 79) {
            same("row(" + place + ")", () -> x.row(place), () -> model.row(place));
        } else if (choice < 84) {
            same("part(" + place + ")", () -> x.part(place), () -> model.part(place));
        } else if (choice < 90) {
            int n = random.nextInt(20) - 1;
            same("several(" + place + ", " + n + ")", () -> x.several(place, n), () -> model.several(place, n));
        } else if (choice < 93) {
            same("history()", x::history, model::history);
        } else if (choice < 96) {
            int what = random.nextInt(11) - 1;
            same("count(" + what + ")", () -> x.count(what), () -> model.count(what));
        } else if (choice < 97) {
            same("storage()", x::storage, model::storage);
        } else {
            rare();
        }
    }

    private void rare() {
        int choice = random.nextInt(10);
        if (choice < 5) {
            same("mark()", x::mark, model::mark);
        } else if (choice < 7) {
            int mark = random.nextInt(model.count(4) + 2) - 1;
            same("repair(" + mark + ")", () -> x.repair(mark), () -> model.repair(mark));
        } else {
            boolean on = choice < 9;
            same("early(" + on + ")", () -> bit(x.early(on)), () -> bit(model.early(on)));
        }
    }

    /** Branches with a pattern, so that tables, loops and sums come to trust what they learn. */
    private boolean outcome(int place) {
        if (looseness > 0 && random.nextInt(looseness == 1 ? 30 : 5) == 0) {
            return random.nextBoolean();
        }
        int history = model.history();
        switch (shape) {
            case 0: return (history & 7) != 7;
            case 1: return Integer.bitCount(history & 0x29) % 2 == 0;
            case 2: return (place & 4) == 0 ? (history & 3) != 0 : (history & 0x80) == 0;
            default: return calls / 40 % 2 == 0 ? place % 3 != 0 : (history & 0x8000) != 0;
        }
    }

    private void same(String call, IntSupplier got, IntSupplier want) {
        calls++;
        String due = told(want);
        String answer = told(got);
        CHECK.due(name + ", call " + calls + ": " + call + " " + answer + ", due is " + due, answer.equals(due), true);
    }

    private static String told(IntSupplier call) {
        try {
            return "answered " + call.getAsInt();
        } catch (RuntimeException e) {
            return "threw " + e.getClass().getName();
        }
    }

    private static int bit(boolean value) {
        return value ? 1 : 0;
    }
}
