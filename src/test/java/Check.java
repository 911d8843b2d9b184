/** Compares answers with those that are due, prints each that is not, and ends a test with exit code 1 then. */
final class Check {
    private int looked;
    private int wrong;

    void due(String call, Object got, Object want) {
        looked++;
        if (!got.equals(want)) {
            wrong++;
            System.out.println(call + " answered " + got + ", due is " + want);
        }
    }

    void refused(String call, Class<? extends RuntimeException> want, Runnable action) {
        due(call, outcome(action), want.getSimpleName());
    }

    void end() {
        System.out.println(wrong == 0 ? looked + " answers are as due" : wrong + " answers are not as due");
        if (wrong != 0 || looked == 0) {
            System.exit(1);
        }
    }

    private static String outcome(Runnable action) {
        try {
            action.run();
            return "nothing thrown";
        } catch (RuntimeException thrown) {
            return thrown.getClass().getSimpleName();
        }
    }
}
