import java.util.HashSet;
import java.util.Set;

/** Counts answers that are not as due; a test ends with exit code 1 if there was one. */
final class Check {
    private static final long MOST_MILLISECONDS = 180_000;

    private final String name;
    private String sentence = "";
    private final Set<String> sentences = new HashSet<>();
    private int checksBefore;
    private int checks;
    private int wrong;

    Check(String name) {
        this.name = name;
        endInTime();
    }

    /** Every call must end: a test that hangs is one that fails. */
    private void endInTime() {
        Thread watch = new Thread(() -> {
            try {
                Thread.sleep(MOST_MILLISECONDS);
            } catch (InterruptedException e) {
                return;
            }
            fail("did not end in time");
            Runtime.getRuntime().halt(1);
        });
        watch.setDaemon(true);
        watch.start();
    }

    /** The words of the document that the answers from here on hold to; each failure is told with them. */
    void sentence(String words) {
        endSentence();
        sentence = words;
        sentences.add(words);
        checksBefore = checks;
    }

    void due(String call, long got, long want) {
        checks++;
        if (got != want) {
            fail(call + " answered " + got + ", due is " + want);
        }
    }

    void due(String call, boolean got, boolean want) {
        checks++;
        if (got != want) {
            fail(call + " answered " + got + ", due is " + want);
        }
    }

    /** The call must throw an exception of just this class. */
    void throwing(String call, Class<? extends RuntimeException> want, Runnable body) {
        checks++;
        try {
            body.run();
        } catch (RuntimeException e) {
            if (e.getClass() != want) {
                fail(call + " threw " + e.getClass().getName() + ", due is " + want.getName());
            }
            return;
        }
        fail(call + " threw nothing, due is " + want.getName());
    }

    void end() {
        endSentence();
        System.out.println(name + ": " + checks + " answers looked at for " + sentences.size() + " sentences, "
                + wrong + " not as due");
        if (wrong != 0 || checks == 0) {
            System.exit(1);
        }
    }

    /** A sentence that is named but not looked at would pass in silence. */
    private void endSentence() {
        if (!sentence.isEmpty() && checks == checksBefore) {
            fail("nothing was looked at");
        }
    }

    private void fail(String text) {
        wrong++;
        System.out.println(name + (sentence.isEmpty() ? "" : ", \"" + sentence + "\"") + ": " + text);
    }

    /** Updates of one place, one for each character: 1 is taken, 0 is not. */
    static void updates(PredictorKinds x, int place, String outcomes) {
        for (int i = 0; i < outcomes.length(); i++) {
            x.update(place, outcomes.charAt(i) == '1');
        }
    }

    /** The same with the history of mark 0 behind each one; the marks behind it are lost. */
    static void updatesAtMark(PredictorKinds x, int place, String outcomes) {
        for (int i = 0; i < outcomes.length(); i++) {
            x.update(place, outcomes.charAt(i) == '1');
            x.repair(0);
        }
    }

    /** The rows of one place, each behind an update. */
    void rows(PredictorKinds x, int place, String outcomes, int... due) {
        for (int i = 0; i < due.length; i++) {
            updates(x, place, outcomes.substring(i, i + 1));
            due("row(" + place + ") after " + outcomes.substring(0, i + 1), x.row(place), due[i]);
        }
    }

    /** The same with the history of mark 0 behind each update. */
    void rowsAtMark(PredictorKinds x, int place, String outcomes, int... due) {
        for (int i = 0; i < due.length; i++) {
            updatesAtMark(x, place, outcomes.substring(i, i + 1));
            due("row(" + place + ") at mark 0 after " + outcomes.substring(0, i + 1), x.row(place), due[i]);
        }
    }
}
