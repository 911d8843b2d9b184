import java.util.NoSuchElementException;

/** Promise 9: count. */
public final class CountTest {
    public static void main(String[] args) {
        Check check = new Check();
        runsThatDoNotBegin(check);
        operationsThatTrap(check);
        callsAndFrames(check);
        callsThatTrapAreNotDone(check);
        sitesAndChangesElsewhere(check);
        deadCallsThatFindATarget(check);
        framesInPlaceCountAsDeep(check);
        wrongCounts(check);
        check.end();
    }

    private static void counts(Check check, String what, CallShaper x, int... due) {
        for (int k = 0; k < due.length; k++) {
            check.due(what + ": count(" + k + ")", x.count(k), due[k]);
        }
    }

    private static void runsThatDoNotBegin(Check check) {
        CallShaper x = new CallShaper();
        x.run(false, 1);
        counts(check, "no target", x, 0, 1, 0, 0, 0, 0);
        x.run(false, 0);
        counts(check, "no room", x, 0, 0, 0, 0, 0, 0);
        Code.put(x, 0, 0, Code.out(1));
        x.run(false, 1);
        counts(check, "one OUT", x, 1, 1, 0, 1, 1, 1);
        x.run(false, 0);
        counts(check, "no room, behind a run", x, 0, 0, 0, 0, 0, 0);
    }

    private static void operationsThatTrap(Check check) {
        CallShaper x = Code.program(Code.out(1), Code.make(1, 1), Code.add(1, 0, 0), Code.out(1));
        x.run(false, 2);
        counts(check, "KIND", x, 1, 2, 0, 1, 3, 1);
        x.run(false, 1);
        counts(check, "HEAP", x, 1, 1, 0, 1, 2, 1);
        CallShaper skipping = Code.program(Code.skip(1, 2), Code.out(1), Code.out(1), Code.answer(1), Code.out(1));
        skipping.run(false, 1);
        counts(check, "operations that are left out", skipping, 0, 1, 0, 1, 2, 1);
    }

    private static void callsAndFrames(Check check) {
        // Selector 1 is in place, selector 2 direct, selector 3 virtual.
        CallShaper x = Code.program(Code.make(2, 1), Code.call(1, 0, 1), Code.call(1, 0, 2), Code.call(1, 2, 3), Code.call(1, 0, 3));
        x.type(0);
        Code.put(x, 0, 1, Code.out(0));
        Code.put(x, 0, 2, Code.call(1, 0, 1), Code.call(1, 0, 1));
        Code.put(x, 0, 3, Code.out(0));
        Code.put(x, 1, 3, Code.out(0));
        x.run(false, 9);
        counts(check, "as it is", x, 5, 2, 6, 7, 12, 3);
        x.run(true, 9);
        counts(check, "shaped, before a shaping", x, 5, 2, 6, 7, 12, 3);
        x.shape();
        x.run(true, 9);
        counts(check, "shaped", x, 5, 2, 2, 4, 12, 3);
        Code.put(x, 0, 2, Code.out(0));
        x.run(true, 9);
        counts(check, "the middle body was changed", x, 6, 2, 4, 6, 13, 3);
        x.run(false, 9);
        counts(check, "not shaped, behind a shaped run", x, 6, 2, 6, 7, 13, 3);
    }

    private static void callsThatTrapAreNotDone(Check check) {
        CallShaper deep = Code.program(Code.call(1, 0, 0));
        deep.run(false, 1);
        counts(check, "DEEP", deep, 0, 1, 11, 12, 12, 12);
        deep.shape();
        deep.run(true, 1);
        counts(check, "DEEP, direct", deep, 0, 1, 0, 12, 12, 12);
        CallShaper lost = Code.program(Code.call(1, 0, 1));
        lost.run(false, 1);
        counts(check, "TARGET", lost, 0, 1, 0, 1, 1, 1);
        CallShaper none = Code.program(Code.call(1, 1, 0));
        none.run(false, 1);
        counts(check, "KIND of a CALL", none, 0, 1, 0, 1, 1, 1);
    }

    private static void sitesAndChangesElsewhere(Check check) {
        CallShaper x = Code.program(Code.call(1, 0, 1));
        Code.put(x, 0, 1, Code.out(0));
        x.shape();
        Code.put(x, 0, 1, Code.call(1, 0, 2), Code.out(0), Code.out(0));
        Code.put(x, 0, 2, Code.out(0));
        x.run(true, 1);
        counts(check, "a call in place, its target changed", x, 4, 1, 1, 2, 6, 3);
        x.type(0);
        Code.put(x, 1, 1, Code.out(0));
        x.run(true, 1);
        counts(check, "other classes came", x, 4, 1, 1, 2, 6, 3);
        CallShaper local = Code.program(Code.make(1, 1), Code.make(2, 1), Code.set(0, 2, 0), Code.call(3, 0, 1));
        Code.put(local, 0, 1, Code.make(1, 1));
        local.shape();
        local.run(true, 9);
        counts(check, "two of three are local", local, 0, 2, 0, 1, 5, 2);
        Code.put(local, 0, 1, Code.out(1));
        local.run(true, 9);
        counts(check, "one of three is local", local, 1, 3, 0, 1, 6, 2);
    }

    private static void deadCallsThatFindATarget(Check check) {
        CallShaper x = Code.program(Code.call(1, 0, 1));
        x.shape();
        check.due("dead", x.site(0, 0, 0), 4);
        Code.put(x, 0, 1, Code.out(0));
        check.due("dead, but done: run", x.run(true, 1), 0);
        counts(check, "dead, but done", x, 1, 1, 1, 2, 2, 2);
    }

    private static void framesInPlaceCountAsDeep(Check check) {
        // Selector 0 goes down to twelve frames and calls selector 1, which is in place, in each.
        CallShaper x = Code.program(Code.call(1, 0, 1), Code.call(1, 0, 0));
        Code.put(x, 0, 1, Code.constant(1, 1));
        x.shape();
        check.due("in place at twelve frames: run", x.run(true, 1), 4);
        counts(check, "in place at twelve frames", x, 0, 1, 0, 12, 34, 12);
    }

    private static void wrongCounts(Check check) {
        CallShaper x = new CallShaper();
        int[] wrong = {-1, 6, Integer.MAX_VALUE, Integer.MIN_VALUE};
        for (int what : wrong) {
            check.refused("count(" + what + ")", NoSuchElementException.class, () -> x.count(what));
        }
    }
}
