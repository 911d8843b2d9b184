import java.util.Arrays;
import java.util.Random;
import java.util.function.IntSupplier;

/** Runs of calls by a fixed source of chance, each answer held against that of PlainModel; all promises. */
public final class RandomTest {
    private static final int RUNS = 4000;
    private static final int CALLS = 512;
    private static final int[] STRANGE = {-1, -2, 3, 4, 5, 6, 9, 10, 12, 61, Integer.MAX_VALUE, Integer.MIN_VALUE};

    private final Random chance;
    private final CallShaper shaper = new CallShaper();
    private final PlainModel model = new PlainModel();
    private final Check check;
    private final int run;
    // How often a number may be out of its bounds, and how many classes and selectors the run plays with.
    private final int strangeness;
    private final int types;
    private final int selectors;
    // Calls go to higher selectors of register 0 alone, so that runs end and, now and then, use up the fuel.
    private final boolean layered;
    private final int[] traps;

    private RandomTest(int run, Check check, int[] traps) {
        this.run = run;
        this.check = check;
        this.traps = traps;
        chance = new Random(run);
        strangeness = run % 4 == 0 ? 20 : 1000;
        types = 1 + chance.nextInt(6);
        layered = run % 3 == 0;
        selectors = layered ? 4 : 1 + chance.nextInt(4);
    }

    public static void main(String[] args) {
        Check check = new Check();
        int[] traps = new int[8];
        for (int run = 0; run < RUNS; run++) {
            new RandomTest(run, check, traps).go();
        }
        // The chance is worth something only if it comes upon every end that a run can have.
        for (int trap = 0; trap < traps.length; trap++) {
            check.due("runs that end with " + trap + " are many: " + traps[trap] + ", which", traps[trap] > 500, true);
        }
        System.out.println("runs by how they ended: " + Arrays.toString(traps));
        check.end();
    }

    private void go() {
        for (int type = 1; type < types; type++) {
            if (chance.nextInt(5) > 0) {
                makeType();
            }
        }
        int first = 10 + chance.nextInt(120);
        for (int call = 0; call < first; call++) {
            putOperation();
        }
        for (int call = first + types; call < CALLS; call++) {
            oneCall();
        }
    }

    private void oneCall() {
        int which = chance.nextInt(100);
        if (which < 20) {
            putOperation();
        } else if (which < 24) {
            int type = number(types);
            int selector = number(selectors);
            compare("strip(" + type + ", " + selector + ")", () -> shaper.strip(type, selector), () -> model.strip(type, selector));
        } else if (which < 25) {
            makeType();
        } else if (which < 35) {
            compare("shape()", shaper::shape, model::shape);
            compare("reach()", shaper::reach, model::reach);
        } else if (which < 55) {
            int type = number(types);
            int selector = number(selectors);
            int k = number(10);
            compare("site(" + type + ", " + selector + ", " + k + ")", () -> shaper.site(type, selector, k),
                () -> model.site(type, selector, k));
        } else if (which < 85) {
            runAndLook();
        } else {
            int k = number(45);
            compare("out(" + k + ")", () -> shaper.out(k), () -> model.out(k));
            compare("count(" + k + ")", () -> shaper.count(k), () -> model.count(k));
        }
    }

    private void makeType() {
        int parent = number(types + 1) - 1;
        compare("type(" + parent + ")", () -> shaper.type(parent), () -> model.type(parent));
    }

    private void putOperation() {
        if (layered && chance.nextInt(5) > 0) {
            putLayered();
        } else {
            putAny();
        }
    }

    private void putLayered() {
        int type = chance.nextInt(3) > 0 ? 0 : number(types);
        int selector = number(4);
        int[] harmless = {0, 1, 8, 9, 4};
        boolean call = selector < 3 && chance.nextInt(3) > 0;
        int kind = call ? 7 : harmless[chance.nextInt(run % 2 == 0 ? 5 : 2)];
        int x = 1 + number(5);
        int y = call ? 0 : number(6);
        putOne(type, selector, kind, x, y, call ? selector + 1 : number(4));
    }

    private void putAny() {
        int type = number(types);
        int selector = number(selectors);
        int kind = chance.nextInt(4) == 0 ? 7 : number(12);
        // Registers 0 and 1 hold what a call hands over, so they are looked at more often.
        int x = kind == 8 || kind == 10 || chance.nextInt(4) == 0 ? number(3) : number(6);
        int y = kind == 7 || kind == 5 || chance.nextInt(3) == 0 ? number(2) : kind == 9 ? number(10) : number(6);
        int z = kind == 7 ? number(selectors) : kind == 5 || kind == 6 ? number(3) : number(6);
        putOne(type, selector, kind, x, y, z);
    }

    private void putOne(int type, int selector, int kind, int x, int y, int z) {
        compare("operation(" + type + ", " + selector + ", " + kind + ", " + x + ", " + y + ", " + z + ")",
            () -> shaper.operation(type, selector, kind, x, y, z), () -> model.operation(type, selector, kind, x, y, z));
    }

    private void runAndLook() {
        boolean shaped = chance.nextBoolean();
        int heap = number(chance.nextBoolean() ? 61 : 6);
        String call = "run(" + shaped + ", " + heap + ")";
        compare(call, () -> shaper.run(shaped, heap), () -> model.run(shaped, heap));
        if (heap >= 0 && heap <= 60) {
            traps[model.run(shaped, heap)]++;
        }
        for (int what = 0; what < 6; what++) {
            int w = what;
            compare(call + ", count(" + w + ")", () -> shaper.count(w), () -> model.count(w));
        }
        for (int k = 0; k <= model.count(0); k++) {
            int at = k;
            compare(call + ", out(" + at + ")", () -> shaper.out(at), () -> model.out(at));
        }
    }

    private int number(int bound) {
        return chance.nextInt(strangeness) == 0 ? STRANGE[chance.nextInt(STRANGE.length)] : chance.nextInt(bound);
    }

    private void compare(String call, IntSupplier got, IntSupplier want) {
        check.due("run " + run + ": " + call, outcome(got), outcome(want));
    }

    private static String outcome(IntSupplier call) {
        try {
            return Integer.toString(call.getAsInt());
        } catch (RuntimeException thrown) {
            return thrown.getClass().getSimpleName();
        }
    }
}
