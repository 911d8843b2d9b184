/** Promise 3: operation. */
public final class OperationTest {
    private static final int ANY = Integer.MIN_VALUE;
    private static final int NOT_NAMED = -1;
    // For each kind how many numbers x, y and z may be, from 0 on; ANY: every int; NOT_NAMED: it does not count.
    private static final int[][] BOUNDS = {
        {6, ANY, NOT_NAMED}, {6, 6, NOT_NAMED}, {6, 6, 6}, {6, 6, 6}, {6, 6, NOT_NAMED}, {6, 6, 3},
        {6, 6, 3}, {6, 6, 4}, {6, NOT_NAMED, NOT_NAMED}, {6, 10, NOT_NAMED}, {6, 6, NOT_NAMED}, {6, NOT_NAMED, NOT_NAMED},
    };
    private static final int[] FAR = {Integer.MIN_VALUE, -1000, 1000, Integer.MAX_VALUE};

    public static void main(String[] args) {
        Check check = new Check();
        for (int kind = 0; kind < BOUNDS.length; kind++) {
            for (int which = 0; which < 3; which++) {
                numbersAreLookedAt(check, kind, which);
            }
        }
        bodiesAreLookedAt(check);
        bodiesHoldTen(check);
        check.end();
    }

    private static void numbersAreLookedAt(Check check, int kind, int which) {
        int bound = BOUNDS[kind][which];
        for (int n = -1; n <= 11; n++) {
            oneNumber(check, kind, which, n, bound < 0 || n >= 0 && n < bound);
        }
        for (int n : FAR) {
            oneNumber(check, kind, which, n, bound < 0);
        }
    }

    private static void oneNumber(Check check, int kind, int which, int number, boolean fine) {
        CallShaper shaper = new CallShaper();
        int[] n = new int[3];
        n[which] = number;
        String call = "operation(0, 0, " + kind + ", " + n[0] + ", " + n[1] + ", " + n[2] + ")";
        if (fine) {
            check.due(call, shaper.operation(0, 0, kind, n[0], n[1], n[2]), 1);
        } else {
            check.refused(call, IllegalArgumentException.class, () -> shaper.operation(0, 0, kind, n[0], n[1], n[2]));
            check.due(call + " was refused and put nothing: strip(0, 0)", shaper.strip(0, 0), 0);
        }
    }

    private static void bodiesAreLookedAt(Check check) {
        CallShaper x = new CallShaper();
        x.type(-1);
        int[][] wrong = {{2, 0, 0}, {-1, 0, 0}, {6, 0, 0}, {0, -1, 0}, {0, 4, 0}, {0, 0, -1}, {0, 0, 12},
            {Integer.MAX_VALUE, 0, 0}, {Integer.MIN_VALUE, 0, 0}, {0, Integer.MAX_VALUE, 0}, {0, 0, Integer.MAX_VALUE}};
        for (int[] w : wrong) {
            check.refused("operation(" + w[0] + ", " + w[1] + ", " + w[2] + ", 0, 0, 0)", IllegalArgumentException.class,
                () -> x.operation(w[0], w[1], w[2], 0, 0, 0));
        }
        check.due("operation(1, 3, ..)", x.operation(1, 3, 0, 0, 0, 0), 1);
        check.due("operation(1, 2, ..)", x.operation(1, 2, 0, 0, 0, 0), 1);
        check.due("operation(0, 3, ..)", x.operation(0, 3, 0, 0, 0, 0), 1);
        check.due("operation(1, 3, ..) again", x.operation(1, 3, 0, 0, 0, 0), 2);
    }

    private static void bodiesHoldTen(Check check) {
        CallShaper x = new CallShaper();
        for (int many = 1; many <= 10; many++) {
            check.due("operation " + many, x.operation(0, 0, 0, 2, many, 0), many);
        }
        check.refused("an 11th operation", IllegalStateException.class, () -> x.operation(0, 0, 0, 2, 11, 0));
        check.refused("an 11th of no kind", IllegalArgumentException.class, () -> x.operation(0, 0, 12, 2, 11, 0));
        check.refused("an 11th with no register", IllegalArgumentException.class, () -> x.operation(0, 0, 0, 6, 11, 0));
        check.due("another body has room", x.operation(0, 1, 8, 2, 0, 0), 1);
        check.due("run: all ten are done", x.run(false, 1), 0);
        check.due("count(4)", x.count(4), 10);
    }
}
