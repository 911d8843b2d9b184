/** Operations as rows of kind, x, y, z, so that the tests read like the programs they make. */
final class Code {
    private Code() {
    }

    static int[] constant(int x, int value) {
        return new int[] {0, x, value, 0};
    }

    static int[] move(int x, int y) {
        return new int[] {1, x, y, 0};
    }

    static int[] add(int x, int y, int z) {
        return new int[] {2, x, y, z};
    }

    static int[] less(int x, int y, int z) {
        return new int[] {3, x, y, z};
    }

    static int[] make(int x, int type) {
        return new int[] {4, x, type, 0};
    }

    static int[] get(int x, int y, int field) {
        return new int[] {5, x, y, field};
    }

    static int[] set(int x, int y, int field) {
        return new int[] {6, x, y, field};
    }

    static int[] call(int x, int y, int selector) {
        return new int[] {7, x, y, selector};
    }

    static int[] out(int x) {
        return new int[] {8, x, 0, 0};
    }

    static int[] skip(int x, int many) {
        return new int[] {9, x, many, 0};
    }

    static int[] cast(int x, int type) {
        return new int[] {10, x, type, 0};
    }

    static int[] answer(int x) {
        return new int[] {11, x, 0, 0};
    }

    /** Puts the operations behind those of a body. */
    static void put(CallShaper shaper, int type, int selector, int[]... operations) {
        for (int[] o : operations) {
            shaper.operation(type, selector, o[0], o[1], o[2], o[3]);
        }
    }

    /** A new object whose body of class 0 and selector 0 has the operations. */
    static CallShaper program(int[]... operations) {
        CallShaper shaper = new CallShaper();
        put(shaper, 0, 0, operations);
        return shaper;
    }

    static int[][] times(int many, int[] operation) {
        int[][] all = new int[many][];
        java.util.Arrays.fill(all, operation);
        return all;
    }
}
