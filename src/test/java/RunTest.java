/** Promise 8: run, with the operations and the traps. */
public final class RunTest {
    private static final int KIND = 1;
    private static final int CAST = 2;
    private static final int HEAP = 3;
    private static final int DEEP = 4;
    private static final int FUEL = 5;
    private static final int TARGET = 6;
    private static final int FULL = 7;

    public static void main(String[] args) {
        Check check = new Check();
        values(check);
        framesAreTheirOwn(check);
        skips(check);
        kindTraps(check);
        casts(check);
        heaps(check);
        deepAndTarget(check);
        fuel(check);
        full(check);
        shapedRuns(check);
        wrongHeaps(check);
        check.end();
    }

    private static void trap(Check check, String what, int want, int[]... operations) {
        check.due(what, Code.program(operations).run(false, 60), want);
    }

    /** The one value that a program puts out, or its trap behind a minus. */
    private static void value(Check check, String what, int want, int[]... operations) {
        CallShaper x = Code.program(operations);
        int trap = x.run(false, 60);
        check.due(what, trap != 0 ? -trap : x.out(0), want);
    }

    private static void values(Check check) {
        value(check, "CONST", Integer.MIN_VALUE, Code.constant(3, Integer.MIN_VALUE), Code.out(3));
        value(check, "MOVE", 9, Code.constant(3, 9), Code.move(4, 3), Code.out(4));
        value(check, "MOVE of an object", 1000, Code.move(4, 0), Code.out(4));
        value(check, "ADD", -3, Code.constant(3, 4), Code.constant(4, -7), Code.add(5, 3, 4), Code.out(5));
        value(check, "ADD wraps", Integer.MIN_VALUE, Code.constant(3, Integer.MAX_VALUE), Code.constant(4, 1), Code.add(5, 3, 4),
            Code.out(5));
        value(check, "ADD wraps below", Integer.MAX_VALUE, Code.constant(3, Integer.MIN_VALUE), Code.constant(4, -1),
            Code.add(3, 3, 4), Code.out(3));
        value(check, "LESS", 1, Code.constant(3, Integer.MIN_VALUE), Code.constant(4, Integer.MAX_VALUE), Code.less(2, 3, 4),
            Code.out(2));
        value(check, "LESS, the other way", 0, Code.constant(2, 8), Code.constant(3, 1), Code.less(2, 3, 4), Code.out(2));
        value(check, "LESS of equals", 0, Code.constant(2, 8), Code.less(2, 2, 2), Code.out(2));
        value(check, "NEW of a class that is not there", 1005, Code.make(2, 5), Code.out(2));
        value(check, "a new object's field", 0, Code.make(2, 5), Code.constant(3, 7), Code.get(3, 2, 2), Code.out(3));
        value(check, "GET behind SET", 12, Code.constant(1, 12), Code.set(0, 1, 2), Code.get(4, 0, 2), Code.out(4));
        value(check, "another field", 0, Code.constant(1, 12), Code.set(0, 1, 1), Code.get(4, 0, 2), Code.out(4));
        value(check, "another object's field", 0, Code.make(2, 0), Code.constant(1, 12), Code.set(0, 1, 1), Code.get(4, 2, 1),
            Code.out(4));
        value(check, "one object under two names", 12, Code.move(2, 0), Code.constant(1, 12), Code.set(0, 1, 1), Code.get(4, 2, 1),
            Code.out(4));
        value(check, "an object in a field", 1003, Code.make(2, 3), Code.set(0, 2, 0), Code.get(4, 0, 0), Code.out(4));
        value(check, "an int of an object's look", 1003, Code.constant(2, 1003), Code.out(2));
        trap(check, "RETURN ends the run's call", 0, Code.answer(1), Code.add(0, 0, 0));
        CallShaper x = Code.program(Code.get(2, 0, 0), Code.out(2), Code.constant(2, 5), Code.set(0, 2, 0));
        x.run(false, 1);
        x.run(false, 1);
        check.due("a run begins with new objects", x.out(0), 0);
    }

    private static void framesAreTheirOwn(Check check) {
        CallShaper x = Code.program(Code.constant(2, 21), Code.constant(5, 31), Code.constant(4, 41), Code.call(3, 0, 1), Code.out(3),
            Code.out(2), Code.out(5), Code.constant(1, 51), Code.call(0, 0, 2), Code.out(0));
        Code.put(x, 0, 1, Code.out(0), Code.out(1), Code.out(2), Code.out(5), Code.constant(2, 61), Code.constant(5, 71),
            Code.answer(2));
        Code.put(x, 0, 2, Code.constant(1, 8));
        check.due("frames: run", x.run(false, 1), 0);
        int[] due = {1000, 31, 0, 0, 61, 21, 31, 0};
        check.due("frames: count(0)", x.count(0), due.length);
        for (int k = 0; k < due.length; k++) {
            check.due("frames: out(" + k + ")", x.out(k), due[k]);
        }
        CallShaper again = Code.program(Code.out(2), Code.constant(2, 5), Code.call(3, 0, 1), Code.call(3, 0, 1), Code.call(3, 0, 1));
        Code.put(again, 0, 1, Code.out(5), Code.out(4), Code.constant(5, 9), Code.move(4, 0));
        again.run(false, 1);
        again.run(false, 1);
        for (int k = 0; k < 7; k++) {
            check.due("a frame's registers are 0 at first: out(" + k + ")", again.out(k), 0);
        }
        CallShaper first = Code.program(Code.out(1), Code.out(0));
        first.run(false, 1);
        check.due("the run's own call: register 1", first.out(0), 0);
        check.due("the run's own call: register 0", first.out(1), 1000);
    }

    private static void skips(Check check) {
        value(check, "SKIP leaves out", 2, Code.skip(1, 1), Code.out(1), Code.constant(1, 2), Code.out(1));
        value(check, "SKIP of an int that is not 0", 3, Code.constant(1, 3), Code.skip(1, 1), Code.out(1));
        value(check, "SKIP of an object", 1000, Code.skip(0, 1), Code.out(0));
        value(check, "SKIP by 0", 0, Code.skip(1, 0), Code.out(1));
        trap(check, "SKIP over the end", 0, Code.skip(1, 9), Code.add(0, 0, 0));
        trap(check, "SKIP at the end", 0, Code.skip(1, 9));
        CallShaper x = Code.program(Code.constant(2, 4), Code.call(2, 0, 1), Code.out(2));
        Code.put(x, 0, 1, Code.skip(1, 9), Code.answer(0));
        x.run(false, 1);
        check.due("SKIP over a RETURN: the answer is 0", x.out(0), 0);
    }

    private static void kindTraps(Check check) {
        trap(check, "ADD, y", KIND, Code.add(2, 0, 1));
        trap(check, "ADD, z", KIND, Code.add(2, 1, 0));
        trap(check, "LESS, y", KIND, Code.less(2, 0, 1));
        trap(check, "LESS, z", KIND, Code.less(2, 1, 0));
        trap(check, "GET", KIND, Code.get(0, 1, 0));
        trap(check, "SET, x", KIND, Code.set(1, 0, 0));
        trap(check, "SET, y may be either", 0, Code.set(0, 1, 0), Code.set(0, 0, 0));
        trap(check, "CALL", KIND, Code.call(0, 1, 3));
        trap(check, "CAST", KIND, Code.cast(1, 0));
        trap(check, "x of ADD, GET and CALL may be either", TARGET, Code.add(0, 1, 1), Code.make(2, 1), Code.get(2, 2, 0),
            Code.make(2, 1), Code.call(3, 2, 0));
    }

    private static void casts(Check check) {
        CallShaper x = new CallShaper();
        x.type(0);
        x.type(1);
        x.type(0);
        int[][] is = {{0, 0}, {1, 0}, {1, 1}, {2, 0}, {2, 1}, {2, 2}, {3, 0}, {3, 3}, {4, 4}, {5, 5}};
        for (int type = 0; type < 6; type++) {
            for (int other = 0; other < 6; other++) {
                x.strip(0, 0);
                Code.put(x, 0, 0, Code.make(1, type), Code.cast(1, other));
                int want = CAST;
                for (int[] pair : is) {
                    want = pair[0] == type && pair[1] == other ? 0 : want;
                }
                check.due("class " + type + " CAST " + other, x.run(false, 2), want);
            }
        }
    }

    private static void heaps(Check check) {
        CallShaper x = Code.program(Code.make(1, 0), Code.make(1, 0));
        int[] due = {HEAP, HEAP, HEAP, 0, 0};
        for (int heap = 0; heap < due.length; heap++) {
            check.due("two NEWs: run(false, " + heap + ")", x.run(false, heap), due[heap]);
        }
        check.due("without a target and without room", new CallShaper().run(false, 0), HEAP);
        check.due("without a target", new CallShaper().run(false, 1), TARGET);
        CallShaper many = Code.program(Code.times(10, Code.call(1, 0, 1)));
        Code.put(many, 0, 1, Code.times(6, Code.make(1, 0)));
        check.due("NEW when there are 60", many.run(false, 60), HEAP);
        check.due("NEW when there are 60: count(1)", many.count(1), 60);
    }

    private static void deepAndTarget(Check check) {
        trap(check, "CALL without end", DEEP, Code.call(1, 0, 0));
        CallShaper x = Code.program(Code.call(1, 0, 0), Code.out(0));
        x.run(false, 1);
        check.due("CALL without end: nothing behind it is done", x.count(0), 0);
        // Eleven calls down there are twelve frames, and there a call without a target, or of an int, is made.
        int[][] down = {Code.constant(2, 1), Code.add(5, 1, 2), Code.constant(3, 11), Code.less(3, 1, 3), Code.skip(3, 2),
            Code.call(4, 0, 0), Code.answer(4)};
        CallShaper free = Code.program(down);
        check.due("twelve frames", free.run(false, 1), 0);
        Code.put(free, 0, 0, Code.call(4, 0, 3));
        check.due("twelve frames: TARGET comes before DEEP", free.run(false, 1), TARGET);
        CallShaper ofAnInt = Code.program(down);
        Code.put(ofAnInt, 0, 0, Code.call(4, 2, 0));
        check.due("twelve frames: KIND comes before DEEP", ofAnInt.run(false, 1), KIND);
        CallShaper again = Code.program(down);
        Code.put(again, 0, 0, Code.call(4, 0, 0));
        check.due("a thirteenth frame", again.run(false, 1), DEEP);
        trap(check, "KIND comes before TARGET", KIND, Code.call(4, 2, 3));
        trap(check, "TARGET of a class that is not there", TARGET, Code.make(2, 3), Code.call(4, 2, 0));
    }

    private static void fuel(Check check) {
        for (int between = 0; between <= 6; between++) {
            CallShaper x = Code.nearTheEnd(between);
            check.due("up to 400 operations", x.run(false, 1), 0);
            check.due("up to 400 operations: count(4)", x.count(4), 394 + between);
        }
        CallShaper early = Code.nearTheEnd(5, Code.add(0, 0, 0));
        check.due("the 400th traps", early.run(false, 1), KIND);
        check.due("the 400th traps: count(4)", early.count(4), 400);
        int[][] late = {Code.constant(1, 1), Code.add(1, 0, 0), Code.make(1, 1), Code.cast(0, 1), Code.call(1, 1, 0),
            Code.out(1), Code.skip(1, 9), Code.answer(1)};
        for (int[] last : late) {
            CallShaper x = Code.nearTheEnd(6, last);
            check.due("FUEL comes before all else, kind " + last[0], x.run(false, 1), FUEL);
            check.due("FUEL comes before all else, kind " + last[0] + ": count(4)", x.count(4), 400);
            check.due("FUEL comes before all else, kind " + last[0] + ": count(0)", x.count(0), 0);
        }
    }

    private static void full(Check check) {
        CallShaper x = Code.program(Code.times(4, Code.call(1, 0, 1)));
        Code.put(x, 0, 1, Code.times(10, Code.out(0)));
        check.due("40 OUTs", x.run(false, 1), 0);
        Code.put(x, 0, 0, Code.out(1));
        check.due("41 OUTs", x.run(false, 1), FULL);
        check.due("41 OUTs: count(0)", x.count(0), 40);
        check.due("41 OUTs: count(4)", x.count(4), 45);
    }

    private static void shapedRuns(Check check) {
        CallShaper x = Code.program(Code.make(1, 1), Code.call(2, 0, 1), Code.out(2));
        x.type(0);
        Code.put(x, 0, 1, Code.constant(3, 5), Code.answer(3));
        check.due("not shaped yet: NEW takes room", x.run(true, 1), HEAP);
        x.shape();
        check.due("a local NEW takes no room", x.run(true, 1), 0);
        check.due("a local NEW in a run that is not shaped", x.run(false, 1), HEAP);
        check.due("the run's object takes room", x.run(true, 0), HEAP);
        x.strip(0, 1);
        Code.put(x, 0, 1, Code.constant(3, 6), Code.answer(3));
        x.run(true, 1);
        check.due("the target is the one that is there", x.out(0), 6);
        x.strip(0, 1);
        check.due("a call in place whose target is gone", x.run(true, 1), TARGET);
        Code.put(x, 0, 0, Code.out(1));
        check.due("a changed body's NEW takes room", x.run(true, 1), HEAP);
        manyLocals(check);
        directWithoutTarget(check);
    }

    private static void manyLocals(Check check) {
        CallShaper x = Code.program(Code.times(10, Code.call(1, 0, 1)));
        Code.put(x, 0, 1, Code.times(9, Code.call(1, 0, 2)));
        Code.put(x, 0, 2, Code.times(10, Code.make(1, 2)));
        x.shape();
        check.due("local NEWs until the fuel is gone", x.run(true, 1), FUEL);
        check.due("local NEWs until the fuel is gone: count(1)", x.count(1), 1);
        check.due("NEWs until the heap is full", x.run(false, 60), HEAP);
    }

    private static void directWithoutTarget(Check check) {
        CallShaper x = Code.program(Code.make(1, 1), Code.skip(2, 1), Code.call(3, 1, 1), Code.call(3, 0, 1));
        x.type(-1);
        Code.put(x, 1, 1, Code.out(0));
        x.shape();
        check.due("the call is in place", x.site(0, 0, 3), 3);
        check.due("but the object has no target", x.run(true, 9), TARGET);
    }

    private static void wrongHeaps(Check check) {
        CallShaper x = Code.program(Code.constant(1, 7), Code.out(1));
        x.run(false, 60);
        int[] wrong = {-1, 61, Integer.MAX_VALUE, Integer.MIN_VALUE};
        for (int heap : wrong) {
            check.refused("run(false, " + heap + ")", IllegalArgumentException.class, () -> x.run(false, heap));
            check.refused("run(true, " + heap + ")", IllegalArgumentException.class, () -> x.run(true, heap));
        }
        check.due("the latest run is the one before those refused", x.out(0), 7);
        check.due("the latest run is the one before those refused: count(4)", x.count(4), 2);
    }
}
