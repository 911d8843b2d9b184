import java.util.ArrayList;
import java.util.Arrays;
import java.util.List;

/** Operations as rows of kind, x, y, z, so that the tests read like the programs they make. */
final class Code {
    private Code() {
    }

    static int[] constant(int x, int value) {
        return new int[] {0, x, value, 0};
    }

    static int[] move(int x, int y) {
        return new int[] {1, x, y, 0};
    }

    static int[] add(int x, int y, int z) {
        return new int[] {2, x, y, z};
    }

    static int[] less(int x, int y, int z) {
        return new int[] {3, x, y, z};
    }

    static int[] make(int x, int type) {
        return new int[] {4, x, type, 0};
    }

    static int[] get(int x, int y, int field) {
        return new int[] {5, x, y, field};
    }

    static int[] set(int x, int y, int field) {
        return new int[] {6, x, y, field};
    }

    static int[] call(int x, int y, int selector) {
        return new int[] {7, x, y, selector};
    }

    static int[] out(int x) {
        return new int[] {8, x, 0, 0};
    }

    static int[] skip(int x, int many) {
        return new int[] {9, x, many, 0};
    }

    static int[] cast(int x, int type) {
        return new int[] {10, x, type, 0};
    }

    static int[] answer(int x) {
        return new int[] {11, x, 0, 0};
    }

    /** Puts the operations behind those of a body. */
    static void put(CallShaper shaper, int type, int selector, int[]... operations) {
        for (int[] o : operations) {
            shaper.operation(type, selector, o[0], o[1], o[2], o[3]);
        }
    }

    /** A new object whose body of class 0 and selector 0 has the operations. */
    static CallShaper program(int[]... operations) {
        CallShaper shaper = new CallShaper();
        put(shaper, 0, 0, operations);
        return shaper;
    }

    static int[][] times(int many, int[] operation) {
        int[][] all = new int[many][];
        Arrays.fill(all, operation);
        return all;
    }

    /** Makes a class for each of the parents. */
    static void types(CallShaper shaper, int... parents) {
        for (int parent : parents) {
            shaper.type(parent);
        }
    }

    /** Makes a run: how it ended and all that it put out, such as "0 [14, 1001]". */
    static String ran(CallShaper shaper, boolean shaped, int heap) {
        int end = shaper.run(shaped, heap);
        return end + " " + putOut(shaper);
    }

    /** The same of a new object with this one body, as it is and with all the room that there can be. */
    static String ran(int[]... operations) {
        return ran(program(operations), false, 60);
    }

    static List<Integer> putOut(CallShaper shaper) {
        List<Integer> values = new ArrayList<>();
        for (int k = 0; k < shaper.count(0); k++) {
            values.add(shaper.out(k));
        }
        return values;
    }

    static List<Integer> counts(CallShaper shaper) {
        List<Integer> all = new ArrayList<>();
        for (int what = 0; what < 6; what++) {
            all.add(shaper.count(what));
        }
        return all;
    }

    /** What the latest shaping said of the first operations of a body. */
    static List<Integer> sites(CallShaper shaper, int type, int selector, int many) {
        List<Integer> all = new ArrayList<>();
        for (int k = 0; k < many; k++) {
            all.add(shaper.site(type, selector, k));
        }
        return all;
    }

    /** A program that does 394 operations and those between them, and then the one at the end of selector 2, if any. */
    static CallShaper nearTheEnd(int[][] between, int[]... last) {
        CallShaper x = program(times(3, call(2, 0, 1)));
        put(x, 0, 0, between);
        put(x, 0, 0, call(2, 0, 2));
        put(x, 0, 1, times(10, call(2, 0, 3)));
        put(x, 0, 2, times(9, call(2, 0, 3)));
        put(x, 0, 2, last);
        put(x, 0, 3, times(9, constant(1, 1)));
        return x;
    }

    static CallShaper nearTheEnd(int between, int[]... last) {
        return nearTheEnd(times(between, constant(1, 1)), last);
    }
}
