/** Counts answers that are not as due; a test ends with exit code 1 if there was one. */
final class Check {
    private final String name;
    private int checks;
    private int wrong;

    Check(String name) {
        this.name = name;
    }

    void due(String call, long got, long want) {
        checks++;
        if (got != want) {
            fail(call + " answered " + got + ", due is " + want);
        }
    }

    void due(String call, boolean got, boolean want) {
        checks++;
        if (got != want) {
            fail(call + " answered " + got + ", due is " + want);
        }
    }

    /** The call must throw an exception of just this class. */
    void throwing(String call, Class<? extends RuntimeException> want, Runnable body) {
        checks++;
        try {
            body.run();
        } catch (RuntimeException e) {
            if (e.getClass() != want) {
                fail(call + " threw " + e.getClass().getName() + ", due is " + want.getName());
            }
            return;
        }
        fail(call + " threw nothing, due is " + want.getName());
    }

    void end() {
        System.out.println(name + ": " + checks + " answers looked at, " + wrong + " not as due");
        if (wrong != 0 || checks == 0) {
            System.exit(1);
        }
    }

    private void fail(String text) {
        wrong++;
        System.out.println(name + ": " + text);
    }

    /** Updates of one place, one for each character: 1 is taken, 0 is not. */
    static void updates(PredictorKinds x, int place, String outcomes) {
        for (int i = 0; i < outcomes.length(); i++) {
            x.update(place, outcomes.charAt(i) == '1');
        }
    }
}
