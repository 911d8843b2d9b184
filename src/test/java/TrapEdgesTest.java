import java.util.Collections;
import java.util.List;

/** The edges of traps and of the run itself that the document names under 'Terms', sentence by sentence. */
public final class TrapEdgesTest {
    public static void main(String[] args) {
        Check check = new Check();
        traps(check);
        orderOfTraps(check);
        theRun(check);
        check.end();
    }

    private static void traps(Check check) {
        check.sentence("TRAPS end a run", TrapEdgesTest::trapsEndARun);
        check.sentence("1 KIND: an operation needs an int (ADD, LESS)", TrapEdgesTest::kindOfInts);
        check.sentence("or an object (GET, SET its x, CALL its y, CAST) and has the other", TrapEdgesTest::kindOfObjects);
        check.sentence("2 CAST: an object whose class IS not y.", TrapEdgesTest::cast);
        check.sentence("3 HEAP: NEW, and there are as many objects as the heap has room for.", TrapEdgesTest::heap);
        check.sentence("4 DEEP: a CALL when there are 12 frames.", TrapEdgesTest::deep);
        check.sentence("5 FUEL: an operation after the 400th.", TrapEdgesTest::fuel);
        check.sentence("6 TARGET: a CALL without a target.", TrapEdgesTest::target);
        check.sentence("7 FULL: an OUT behind the 40th.", TrapEdgesTest::full);
    }

    private static void orderOfTraps(Check check) {
        check.sentence("FUEL is looked at first", TrapEdgesTest::fuelFirst);
        check.sentence("FUEL is looked at first (before TARGET)", TrapEdgesTest::fuelBeforeTarget);
        check.sentence("FUEL is looked at first (before DEEP)", TrapEdgesTest::fuelBeforeDeep);
        check.sentence("FUEL is looked at first (before FULL)", TrapEdgesTest::fuelBeforeFull);
        check.sentence("of a CALL KIND, then TARGET, then DEEP", TrapEdgesTest::orderOfACall);
    }

    private static void theRun(Check check) {
        check.sentence("A RUN makes an object of class 0 (HEAP, if there is no room)", TrapEdgesTest::roomForTheRun);
        check.sentence("and calls selector 0 of it (.. TARGET if there is none)", TrapEdgesTest::targetOfTheRun);
        check.sentence("and calls selector 0 of it (DEEP never ..)", TrapEdgesTest::neverDeep);
        check.sentence("with register 1 the int 0", TrapEdgesTest::register1);
    }

    private static void trapsEndARun(Check check) {
        check.due("nothing behind it is done", Code.ran(Code.out(1), Code.add(1, 0, 0), Code.out(1)), "1 [0]");
        CallShaper x = Code.program(Code.call(1, 0, 1), Code.out(1));
        Code.put(x, 0, 1, Code.out(0), Code.call(1, 0, 2), Code.out(0));
        Code.put(x, 0, 2, Code.cast(0, 1), Code.out(0));
        check.due("nor in the frames above", Code.ran(x, false, 1), "2 [1000]");
        x.strip(0, 2);
        Code.put(x, 0, 2, Code.out(1));
        check.due("but the next run", Code.ran(x, false, 1), "0 [1000, 0, 1000, 0]");
        CallShaper fine = Code.program(Code.out(0));
        check.due("0 without a trap", fine.run(false, 1), 0);
    }

    private static void kindOfInts(Check check) {
        int[][] left = {Code.add(2, 0, 1), Code.less(2, 0, 1)};
        int[][] right = {Code.add(2, 1, 0), Code.less(2, 1, 0)};
        int[][] both = {Code.add(2, 0, 0), Code.less(2, 0, 0)};
        int[][] neither = {Code.add(0, 1, 2), Code.less(0, 1, 2)};
        for (int k = 0; k < 2; k++) {
            String name = k == 0 ? "ADD" : "LESS";
            check.due(name + ": y is an object", Code.ran(left[k]), "1 []");
            check.due(name + ": z is an object", Code.ran(right[k]), "1 []");
            check.due(name + ": y and z are objects", Code.ran(both[k]), "1 []");
            check.due(name + ": x is an object, which does not matter", Code.ran(neither[k], Code.out(0)), "0 [0]");
        }
    }

    private static void kindOfObjects(Check check) {
        int[][] wrong = {Code.get(0, 1, 0), Code.set(1, 0, 0), Code.call(0, 1, 0), Code.cast(1, 0)};
        for (int[] operation : wrong) {
            check.due("an int in kind " + operation[0], Code.ran(operation), "1 []");
        }
        int[][] fine = {Code.get(1, 0, 0), Code.set(0, 1, 0), Code.set(0, 0, 0), Code.cast(0, 0), Code.make(0, 3), Code.move(1, 0),
            Code.move(0, 1), Code.constant(0, 1), Code.skip(0, 1), Code.skip(1, 1), Code.answer(0), Code.answer(1)};
        for (int[] operation : fine) {
            check.due("either will do: kind " + operation[0] + ", x " + operation[1], Code.ran(operation), "0 []");
        }
        CallShaper x = Code.program(Code.constant(5, 3), Code.call(1, 0, 1), Code.move(5, 0), Code.call(0, 0, 1));
        Code.put(x, 0, 1, Code.out(1));
        check.due("CALL takes either in x and in register 5", Code.ran(x, false, 1), "0 [3, 1000]");
    }

    private static void cast(Check check) {
        CallShaper x = Code.program(Code.make(1, 1), Code.cast(1, 0), Code.cast(1, 1), Code.out(1), Code.cast(1, 2));
        Code.types(x, 0, 1);
        check.due("a child of it", Code.ran(x, false, 2), "2 [1001]");
        check.due("a class that is not there", Code.ran(Code.cast(0, 5)), "2 []");
    }

    /** A program that makes as many objects, up to 99, beside the run's own. */
    private static CallShaper makes(int many) {
        CallShaper x = Code.program(Code.times(many / 10, Code.call(1, 0, 1)));
        Code.put(x, 0, 0, Code.call(1, 0, 2));
        Code.put(x, 0, 1, Code.times(10, Code.make(2, 0)));
        Code.put(x, 0, 2, Code.times(many % 10, Code.make(2, 5)));
        Code.put(x, 0, 2, Code.out(1));
        return x;
    }

    private static void heap(Check check) {
        for (int heap = 1; heap <= 60; heap++) {
            check.due("as many as room " + heap, Code.ran(makes(heap - 1), false, heap), "0 [0]");
            CallShaper more = makes(heap);
            check.due("one more than room " + heap, Code.ran(more, false, heap), "3 []");
            check.due("one more than room " + heap + ": objects made", more.count(1), heap);
        }
        check.due("an object that no register holds takes room still", Code.ran(Code.program(Code.make(0, 0), Code.make(0, 0)), false, 2),
            "3 []");
    }

    /** A program that goes as many frames down and does an operation there. */
    private static CallShaper down(int frames, int[]... last) {
        CallShaper x = Code.program(Code.constant(2, 1), Code.add(5, 1, 2), Code.constant(3, frames - 1), Code.less(3, 1, 3),
            Code.skip(3, 2), Code.call(4, 0, 0), Code.answer(4));
        Code.put(x, 0, 0, last);
        return x;
    }

    private static void deep(Check check) {
        for (int frames = 1; frames <= 12; frames++) {
            CallShaper x = down(frames, Code.out(0));
            check.due(frames + " frames", Code.ran(x, false, 1), "0 [1000]");
            check.due(frames + " frames: count(5)", x.count(5), frames);
        }
        CallShaper more = down(13, Code.out(0));
        check.due("13 frames", Code.ran(more, false, 1), "4 []");
        check.due("13 frames: count(5)", more.count(5), 12);
        CallShaper wide = Code.program(Code.times(10, Code.call(1, 0, 1)));
        Code.put(wide, 0, 1, Code.times(2, Code.call(1, 0, 2)));
        Code.put(wide, 0, 2, Code.out(1));
        check.due("frames that have answered are there no more", Code.ran(wide, false, 1), "0 " + Collections.nCopies(20, 0));
        CallShaper other = down(12, Code.call(4, 0, 1));
        Code.put(other, 0, 1, Code.out(0));
        check.due("a CALL of another method when there are 12", Code.ran(other, false, 1), "4 []");
        CallShaper eleven = down(11, Code.call(4, 0, 1));
        Code.put(eleven, 0, 1, Code.out(0));
        check.due("a CALL of another method when there are 11", Code.ran(eleven, false, 1), "0 [1000]");
    }

    private static void fuel(Check check) {
        CallShaper enough = Code.nearTheEnd(6);
        check.due("400 operations, and then none", enough.run(false, 1), 0);
        check.due("400 operations: count(4)", enough.count(4), 400);
        CallShaper more = Code.nearTheEnd(6, Code.constant(1, 1));
        check.due("401 operations", more.run(false, 1), 5);
        check.due("401 operations: count(4)", more.count(4), 400);
        CallShaper last = Code.nearTheEnd(5, Code.out(1));
        check.due("the 400th is done", Code.ran(last, false, 1), "0 [0]");
        CallShaper returned = Code.nearTheEnd(5, Code.answer(1));
        check.due("the 400th is a RETURN", returned.run(false, 1), 0);
        CallShaper late = Code.nearTheEnd(6, Code.out(1));
        check.due("the 401st is not done", Code.ran(late, false, 1), "5 []");
        check.due("nor in a second run, whose fuel is its own", Code.ran(enough, false, 1), "0 []");
    }

    private static void target(Check check) {
        for (int selector = 1; selector < 4; selector++) {
            check.due("selector " + selector, Code.ran(Code.out(0), Code.call(1, 0, selector), Code.out(0)), "6 [1000]");
        }
        check.due("a class that is not there", Code.ran(Code.make(1, 5), Code.call(1, 1, 0)), "6 []");
        CallShaper x = Code.program(Code.call(1, 0, 1));
        Code.put(x, 0, 1, Code.out(0));
        check.due("there is one", Code.ran(x, false, 1), "0 [1000]");
        x.strip(0, 1);
        check.due("it is gone", Code.ran(x, false, 1), "6 []");
    }

    private static void full(Check check) {
        CallShaper x = Code.program(Code.times(4, Code.call(1, 0, 1)));
        Code.put(x, 0, 1, Code.times(10, Code.out(1)));
        check.due("40", Code.ran(x, false, 1), "0 " + Collections.nCopies(40, 0));
        Code.put(x, 0, 0, Code.constant(2, 1), Code.add(2, 2, 2));
        check.due("40, and other operations behind them", Code.ran(x, false, 1), "0 " + Collections.nCopies(40, 0));
        Code.put(x, 0, 0, Code.out(0));
        check.due("41", Code.ran(x, false, 1), "7 " + Collections.nCopies(40, 0));
    }

    private static void fuelFirst(Check check) {
        int[][] trapping = {Code.add(1, 0, 0), Code.less(1, 0, 0), Code.get(1, 1, 0), Code.set(1, 1, 0), Code.call(1, 1, 0),
            Code.cast(1, 0), Code.cast(0, 1), Code.make(1, 0)};
        int[] due = {1, 1, 1, 1, 1, 1, 2, 3};
        for (int k = 0; k < due.length; k++) {
            check.due("kind " + trapping[k][0] + " as the 400th", Code.nearTheEnd(5, trapping[k]).run(false, 1), due[k]);
            check.due("kind " + trapping[k][0] + " as the 401st", Code.nearTheEnd(6, trapping[k]).run(false, 1), 5);
        }
    }

    private static void fuelBeforeTarget(Check check) {
        for (int between = 5; between <= 6; between++) {
            // The object of class 5, which is not there, is handed over in register 5.
            int[][] operations = Code.times(between, Code.constant(1, 1));
            operations[0] = Code.make(5, 5);
            CallShaper x = Code.nearTheEnd(operations, Code.call(2, 1, 0));
            check.due("a CALL without a target as operation " + (395 + between), x.run(false, 2), between == 5 ? 6 : 5);
        }
    }

    private static void fuelBeforeDeep(Check check) {
        check.due("a 13th frame as the 400th", deepAndLate(0).run(false, 1), 4);
        check.due("a 13th frame as the 401st", deepAndLate(1).run(false, 1), 5);
    }

    /** A program whose 13th frame is due in operation 400 and those between. */
    private static CallShaper deepAndLate(int between) {
        CallShaper x = Code.program(Code.times(3, Code.call(1, 0, 2)));
        Code.put(x, 0, 0, Code.times(between, Code.constant(1, 1)));
        Code.put(x, 0, 0, Code.call(1, 0, 1));
        Code.put(x, 0, 1, Code.times(5, Code.constant(1, 1)));
        Code.put(x, 0, 1, Code.call(1, 0, 1));
        Code.put(x, 0, 2, Code.times(10, Code.call(1, 0, 3)));
        Code.put(x, 0, 3, Code.times(10, Code.constant(1, 1)));
        return x;
    }

    private static void fuelBeforeFull(Check check) {
        for (int between = 5; between <= 6; between++) {
            // Selector 3 is called 39 times: with one OUT there and one between, 40 are put out.
            int[][] operations = Code.times(between, Code.constant(1, 1));
            operations[0] = Code.out(1);
            CallShaper x = Code.nearTheEnd(operations, Code.out(1));
            x.strip(0, 3);
            Code.put(x, 0, 3, Code.times(8, Code.constant(1, 1)));
            Code.put(x, 0, 3, Code.out(1));
            check.due("a 41st OUT as operation " + (395 + between), x.run(false, 1), between == 5 ? 7 : 5);
            check.due("a 41st OUT as operation " + (395 + between) + ": count(0)", x.count(0), 40);
        }
    }

    private static void orderOfACall(Check check) {
        check.due("an int, and no class has a target", Code.ran(Code.call(1, 2, 3)), "1 []");
        check.due("an int, when there are 12 frames", Code.ran(down(12, Code.call(4, 2, 0)), false, 1), "1 []");
        check.due("an int, no target, 12 frames", Code.ran(down(12, Code.call(4, 2, 3)), false, 1), "1 []");
        check.due("no target, when there are 12 frames", Code.ran(down(12, Code.call(4, 0, 3)), false, 1), "6 []");
        check.due("12 frames alone", Code.ran(down(12, Code.call(4, 0, 0)), false, 1), "4 []");
    }

    private static void roomForTheRun(Check check) {
        CallShaper x = Code.program(Code.out(0));
        check.due("no room", Code.ran(x, false, 0), "3 []");
        check.due("no room for a shaped run", Code.ran(x, true, 0), "3 []");
        check.due("no room: counts", Code.counts(x), List.of(0, 0, 0, 0, 0, 0));
        check.due("room for one", Code.ran(x, false, 1), "0 [1000]");
        check.due("no room and no target", Code.ran(new CallShaper(), false, 0), "3 []");
    }

    private static void targetOfTheRun(Check check) {
        CallShaper x = new CallShaper();
        Code.types(x, 0);
        Code.put(x, 0, 1, Code.out(0));
        Code.put(x, 1, 0, Code.out(0));
        check.due("other selectors and classes do not do", Code.ran(x, false, 1), "6 []");
        check.due("nor in a shaped run", Code.ran(x, true, 1), "6 []");
        check.due("the object was made, no frame was", Code.counts(x), List.of(0, 1, 0, 0, 0, 0));
        Code.put(x, 0, 0, Code.out(0));
        check.due("selector 0 of class 0", Code.ran(x, false, 1), "0 [1000]");
    }

    private static void neverDeep(Check check) {
        CallShaper x = Code.program(Code.out(0), Code.call(1, 0, 0));
        String twelve = "4 " + Collections.nCopies(12, 1000);
        check.due("a run that goes too deep", Code.ran(x, false, 1), twelve);
        check.due("the next begins without frames", Code.ran(x, false, 1), twelve);
        check.due("a shaped one too", Code.ran(x, true, 1), twelve);
    }

    private static void register1(Check check) {
        CallShaper x = Code.program(Code.out(1), Code.out(0), Code.constant(1, 5), Code.constant(5, 6));
        check.due("a run", Code.ran(x, false, 1), "0 [0, 1000]");
        check.due("the next run", Code.ran(x, true, 1), "0 [0, 1000]");
    }
}
