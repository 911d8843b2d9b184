import java.util.function.Consumer;

/** Compares answers with those that are due, prints each that is not, and ends a test with exit code 1 then. */
final class Check {
    private int looked;
    private int wrong;
    private int sentences;

    void due(String call, Object got, Object want) {
        looked++;
        if (!got.equals(want)) {
            wrong++;
            System.out.println(call + " answered " + got + ", due is " + want);
        }
    }

    void refused(String call, Class<? extends RuntimeException> want, Runnable action) {
        due(call, outcome(action), want.getSimpleName());
    }

    /** The test of one sentence of the document; what it finds wrong is told over the sentence's words. */
    void sentence(String words, Consumer<Check> test) {
        int lookedBefore = looked;
        int wrongBefore = wrong;
        sentences++;
        try {
            test.accept(this);
        } catch (RuntimeException thrown) {
            wrong++;
            System.out.println("a call that should answer threw " + thrown);
        }
        if (looked == lookedBefore) {
            wrong++;
            System.out.println("nothing was looked at");
        }
        if (wrong != wrongBefore) {
            System.out.println("  .. so this does not hold: " + words);
        }
    }

    void end() {
        String of = sentences == 0 ? "" : " for " + sentences + " sentences";
        System.out.println(wrong == 0 ? looked + " answers" + of + " are as due" : wrong + " answers are not as due");
        if (wrong != 0 || looked == 0) {
            System.exit(1);
        }
    }

    private static String outcome(Runnable action) {
        try {
            action.run();
            return "nothing thrown";
        } catch (RuntimeException thrown) {
            return thrown.getClass().getSimpleName();
        }
    }
}
