import java.util.Collections;
import java.util.List;
import java.util.NoSuchElementException;

/** The edges that promises 5 to 10 name (shape, reach, site, run, count, out), sentence by sentence, and refused calls. */
public final class AnswerEdgesTest {
    private static final int MIN = Integer.MIN_VALUE;
    private static final int MAX = Integer.MAX_VALUE;
    private static final int NO_COUNT = 6;

    public static void main(String[] args) {
        Check check = new Check();
        shapeAndReach(check);
        site(check);
        run(check);
        count(check);
        countOnEdges(check);
        out(check);
        check.sentence("throws (each call that is refused changes nothing)", AnswerEdgesTest::refusedCalls);
        check.sentence("An object is used for at most 512 calls after it has been made", AnswerEdgesTest::manyCalls);
        check.end();
    }

    private static void shapeAndReach(Check check) {
        check.sentence("SHAPES the program: how many methods are reached.", AnswerEdgesTest::howManyMethods);
        check.sentence("Of the latest shaping", AnswerEdgesTest::latestShaping);
        check.sentence("bit c: class c is made", AnswerEdgesTest::bitsOfClasses);
        check.sentence("bit 8 + 4 * c + s: the method of class c and selector s is reached", AnswerEdgesTest::bitsOfMethods);
        check.sentence("0 before", AnswerEdgesTest::noBitsBefore);
        check.sentence("(A class that a NEW names and that is not there counts as one without parent and methods.)",
            AnswerEdgesTest::classesNotThere);
    }

    private static void site(Check check) {
        check.sentence("What the latest shaping said of operation k of a body: 1 VIRTUAL, 2 DIRECT, 3 IN PLACE, 4 DEAD, 5 LOCAL, "
            + "6 a NEW that is not", AnswerEdgesTest::everySite);
        check.sentence("0 for other operations", AnswerEdgesTest::otherOperations);
        check.sentence("0 for .. bodies that were not reached", AnswerEdgesTest::bodiesNotReached);
        check.sentence("0 for .. bodies that .. were changed since", AnswerEdgesTest::bodiesChanged);
        check.sentence("Throws NoSuchElementException when there is no such operation.", AnswerEdgesTest::noSuchOperation);
    }

    private static void run(Check check) {
        check.sentence("A run, shaped or not, with room for heap objects (0 .. 60)", AnswerEdgesTest::everyHeap);
        check.sentence("0, or the trap that ended it", AnswerEdgesTest::everyTrap);
        check.sentence("Throws IllegalArgumentException for another heap.", AnswerEdgesTest::noSuchHeap);
        check.sentence("(A NEW of a class that is not there makes an object of class y, for which no selector has a target.)",
            AnswerEdgesTest::objectsOfNoClass);
    }

    private static void count(Check check) {
        check.sentence("Of the latest run", AnswerEdgesTest::latestRun);
        check.sentence("0 how many values were put out", AnswerEdgesTest::valuesPutOut);
        check.sentence("1 objects made that took room", AnswerEdgesTest::objectsMade);
        check.sentence("2 CALLs that were done", AnswerEdgesTest::callsDone);
        check.sentence("and found their target over the object's class (all but DIRECT and IN PLACE ones of a shaped run)",
            AnswerEdgesTest::callsByClass);
        check.sentence("3 frames made (that of the run's own call, too; all but those of calls IN PLACE of a shaped run)",
            AnswerEdgesTest::framesMade);
        check.sentence("4 operations", AnswerEdgesTest::operations);
        check.sentence("5 the greatest number of frames there were (those in place, too)", AnswerEdgesTest::mostFrames);
    }

    private static void countOnEdges(Check check) {
        check.sentence("0 before; throws NoSuchElementException for another what", AnswerEdgesTest::noSuchCount);
        check.sentence("An operation that traps is counted", AnswerEdgesTest::trapsAreCounted);
        check.sentence("but the one after the 400th is not", AnswerEdgesTest::notAfterThe400th);
        check.sentence("the run's object counts as made", AnswerEdgesTest::theRunsObject);
        check.sentence("a CALL counts as its site says, whatever was changed elsewhere", AnswerEdgesTest::asItsSiteSays);
    }

    private static void out(Check check) {
        check.sentence("Value k that the latest run put out.", AnswerEdgesTest::valueK);
        check.sentence("Throws NoSuchElementException when there is none.", AnswerEdgesTest::noSuchValue);
    }

    private static int method(int type, int selector) {
        return 1 << 8 + 4 * type + selector;
    }

    /** Six classes, each with all four methods, all of which are reached. */
    private static CallShaper everything() {
        CallShaper x = new CallShaper();
        Code.types(x, 0, 1, -1, 0, 4);
        for (int type = 0; type < 6; type++) {
            for (int selector = 0; selector < 4; selector++) {
                Code.put(x, type, selector, Code.make(1, (type + 5) % 6), Code.call(1, 0, (selector + 3) % 4));
            }
        }
        return x;
    }

    private static void howManyMethods(Check check) {
        check.due("none", new CallShaper().shape(), 0);
        check.due("one", Code.program(Code.out(0)).shape(), 1);
        CallShaper x = everything();
        check.due("all", x.shape(), 24);
        check.due("all, again", x.shape(), 24);
        check.due("all: bits", x.reach(), 0xffffff3f);
    }

    private static void latestShaping(Check check) {
        CallShaper x = Code.program(Code.make(1, 3), Code.call(1, 0, 0));
        x.shape();
        int first = 1 | 1 << 3 | method(0, 0);
        check.due("the first", x.reach(), first);
        x.type(0);
        Code.put(x, 0, 0, Code.make(1, 4));
        x.strip(0, 0);
        x.run(true, 1);
        check.due("what comes behind it changes nothing", x.reach(), first);
        x.shape();
        check.due("the second", x.reach(), 1);
    }

    private static void bitsOfClasses(Check check) {
        for (int type = 0; type < 6; type++) {
            CallShaper x = Code.program(Code.make(1, type));
            x.shape();
            check.due("class " + type, x.reach(), 1 | 1 << type | method(0, 0));
        }
    }

    private static void bitsOfMethods(Check check) {
        for (int type = 0; type < 6; type++) {
            for (int selector = 0; selector < 4; selector++) {
                CallShaper x = Code.program(Code.make(1, type), Code.call(2, 1, selector));
                Code.types(x, -1, -1, -1, -1, -1);
                if (type != 0 || selector != 0) {
                    Code.put(x, type, selector, Code.out(0));
                }
                check.due("class " + type + " selector " + selector, x.shape(), Integer.bitCount(method(0, 0) | method(type, selector)));
                check.due("class " + type + " selector " + selector + ": bits", x.reach(),
                    1 | 1 << type | method(0, 0) | method(type, selector));
            }
        }
    }

    private static void noBitsBefore(Check check) {
        CallShaper x = everything();
        x.run(true, 60);
        check.due("before a shaping", x.reach(), 0);
        CallShaper none = new CallShaper();
        none.shape();
        check.due("behind one of nothing", none.reach(), 1);
    }

    private static void classesNotThere(Check check) {
        CallShaper x = Code.program(Code.make(1, 1), Code.call(2, 1, 1), Code.make(1, 5));
        Code.put(x, 0, 1, Code.times(4, Code.out(0)));
        check.due("they add no method", x.shape(), 2);
        check.due("they are made", x.reach(), 1 | 1 << 1 | 1 << 5 | method(0, 0) | method(0, 1));
        check.due("they have no target, which leaves one", x.site(0, 0, 1), 2);
        x.type(0);
        Code.put(x, 1, 1, Code.out(0));
        check.due("made later: what was said stays", x.site(0, 0, 1), 2);
        check.due("made later, and shaped", x.shape(), 3);
        check.due("made later, and shaped: virtual", x.site(0, 0, 1), 1);
        CallShaper alone = Code.program(Code.make(1, 1), Code.call(2, 1, 1));
        alone.shape();
        check.due("without a parent: dead", alone.site(0, 0, 1), 4);
    }

    /** A body with a site of each sort; selector 1 is short, selector 2 long, selector 3 has two methods. */
    private static CallShaper everySort() {
        CallShaper x = Code.program(Code.make(1, 1), Code.make(2, 1), Code.call(3, 2, 3), Code.call(3, 0, 2), Code.call(3, 0, 1),
            Code.out(1));
        Code.types(x, 0);
        Code.put(x, 0, 1, Code.out(0));
        Code.put(x, 0, 2, Code.constant(1, 1), Code.constant(1, 1), Code.out(0), Code.out(0));
        Code.put(x, 0, 3, Code.out(0));
        Code.put(x, 1, 3, Code.out(0));
        return x;
    }

    private static void everySite(Check check) {
        CallShaper x = everySort();
        x.shape();
        check.due("each sort but DEAD", Code.sites(x, 0, 0, 6), List.of(5, 6, 1, 2, 3, 0));
        x.strip(0, 1);
        x.shape();
        check.due("and DEAD", Code.sites(x, 0, 0, 6), List.of(5, 6, 1, 2, 4, 0));
    }

    private static void otherOperations(Check check) {
        CallShaper x = Code.program(Code.constant(1, 1), Code.move(1, 1), Code.add(1, 1, 1), Code.less(1, 1, 1), Code.get(1, 0, 0),
            Code.set(0, 1, 0), Code.out(1), Code.skip(1, 1), Code.cast(0, 0), Code.answer(1));
        x.shape();
        check.due("all ten", Code.sites(x, 0, 0, 10), Collections.nCopies(10, 0));
    }

    private static void bodiesNotReached(Check check) {
        CallShaper x = everySort();
        Code.types(x, 0);
        Code.put(x, 2, 0, Code.make(1, 1), Code.call(1, 0, 1));
        x.shape();
        check.due("class 2 is not made", Code.sites(x, 2, 0, 2), List.of(0, 0));
        Code.put(x, 0, 0, Code.make(4, 2), Code.call(4, 4, 0));
        x.shape();
        check.due("it is made and called", Code.sites(x, 2, 0, 2), List.of(5, 3));
        x.strip(0, 0);
        x.shape();
        check.due("it is not any more", Code.sites(x, 2, 0, 2), List.of(0, 0));
    }

    private static void bodiesChanged(Check check) {
        CallShaper x = everySort();
        Code.put(x, 0, 1, Code.make(1, 1));
        Code.put(x, 1, 0, Code.out(0));
        x.shape();
        List<Integer> said = List.of(5, 6, 1, 2, 3, 0);
        x.run(true, 60);
        x.type(0);
        check.due("runs and classes are no changes", Code.sites(x, 0, 0, 6), said);
        Code.put(x, 1, 0, Code.out(0));
        x.strip(0, 2);
        check.due("nor are those of other bodies", Code.sites(x, 0, 0, 6), said);
        check.due("another body before", Code.sites(x, 0, 1, 2), List.of(0, 5));
        Code.put(x, 0, 1, Code.make(1, 1));
        check.due("another body, one operation more", Code.sites(x, 0, 1, 3), List.of(0, 0, 0));
        Code.put(x, 0, 0, Code.out(1));
        check.due("one operation more", Code.sites(x, 0, 0, 7), Collections.nCopies(7, 0));
        x.shape();
        check.due("shaped again", Code.sites(x, 0, 0, 7), List.of(5, 6, 1, 4, 3, 0, 0));
        x.strip(0, 0);
        Code.put(x, 0, 0, Code.make(1, 1), Code.make(2, 1), Code.call(3, 2, 3));
        check.due("taken away and put again", Code.sites(x, 0, 0, 3), List.of(0, 0, 0));
    }

    private static void noSuchOperation(Check check) {
        CallShaper x = Code.program(Code.times(9, Code.make(1, 1)));
        Code.types(x, 0);
        x.shape();
        check.due("the last of nine", x.site(0, 0, 8), 5);
        int[][] wrong = {{0, 0, 9}, {0, 0, 10}, {0, 0, -1}, {0, 0, MIN}, {0, 0, MAX}, {0, 1, 0}, {0, 1, -1}, {1, 0, 0}, {1, 0, -1},
            {1, -4, 0}, {0, 4, 0}, {0, -1, 0}, {0, MIN, 0}, {0, MAX, 0}, {2, 0, 0}, {-1, 0, 0}, {6, 0, 0}, {MIN, 0, 0}, {MAX, 0, 0}};
        for (int[] w : wrong) {
            check.refused("site(" + w[0] + ", " + w[1] + ", " + w[2] + ")", NoSuchElementException.class, () -> x.site(w[0], w[1], w[2]));
        }
        Code.put(x, 0, 0, Code.make(1, 1));
        check.due("the tenth", x.site(0, 0, 9), 0);
        check.refused("an eleventh", NoSuchElementException.class, () -> x.site(0, 0, 10));
        x.strip(0, 0);
        check.refused("taken away", NoSuchElementException.class, () -> x.site(0, 0, 0));
    }

    private static void everyHeap(Check check) {
        CallShaper x = Code.program(Code.out(0));
        for (int heap = 0; heap <= 60; heap++) {
            check.due("run(false, " + heap + ")", x.run(false, heap), heap == 0 ? 3 : 0);
            check.due("run(true, " + heap + ")", x.run(true, heap), heap == 0 ? 3 : 0);
        }
    }

    private static void everyTrap(Check check) {
        CallShaper fuel = Code.nearTheEnd(6, Code.out(0));
        CallShaper full = Code.program(Code.times(5, Code.call(1, 0, 1)));
        Code.put(full, 0, 1, Code.times(9, Code.out(0)));
        CallShaper[] programs = {Code.program(Code.out(0)), Code.program(Code.add(0, 0, 0)), Code.program(Code.cast(0, 1)),
            Code.program(Code.make(1, 0), Code.answer(1)), Code.program(Code.call(0, 0, 0)), fuel, new CallShaper(), full};
        for (int trap = 0; trap < programs.length; trap++) {
            check.due("as it is, " + trap, programs[trap].run(false, 1), trap);
            programs[trap].shape();
            check.due("shaped, " + trap, programs[trap].run(true, 1), trap);
        }
    }

    private static void noSuchHeap(Check check) {
        CallShaper x = Code.program(Code.out(0));
        int[] wrong = {MIN, -1, 61, MAX};
        for (int heap : wrong) {
            check.refused("run(false, " + heap + ")", IllegalArgumentException.class, () -> x.run(false, heap));
            check.refused("run(true, " + heap + ")", IllegalArgumentException.class, () -> x.run(true, heap));
        }
        check.due("what was refused was no run", Code.counts(x), List.of(0, 0, 0, 0, 0, 0));
    }

    private static void objectsOfNoClass(Check check) {
        for (int type = 1; type < 6; type++) {
            for (int selector = 0; selector < 4; selector++) {
                CallShaper x = Code.program(Code.make(1, type), Code.out(1), Code.call(2, 1, selector));
                for (int s = 1; s < 4; s++) {
                    Code.put(x, 0, s, Code.out(0));
                }
                check.due("class " + type + " selector " + selector, Code.ran(x, false, 2), "6 [" + (1000 + type) + "]");
            }
        }
        CallShaper x = Code.program(Code.make(1, 1), Code.call(2, 1, 1));
        Code.put(x, 0, 1, Code.out(0));
        check.due("not there", Code.ran(x, false, 2), "6 []");
        x.type(0);
        check.due("there, with a parent", Code.ran(x, false, 2), "0 [1001]");
    }

    private static void latestRun(Check check) {
        CallShaper x = everySort();
        x.run(false, 60);
        List<Integer> first = List.of(5, 3, 3, 4, 12, 2);
        check.due("the first", Code.counts(x), first);
        x.shape();
        Code.put(x, 0, 0, Code.out(0));
        x.strip(0, 0);
        x.type(0);
        check.due("what comes behind it changes nothing", Code.counts(x), first);
        x.run(false, 60);
        check.due("a run without a target", Code.counts(x), List.of(0, 1, 0, 0, 0, 0));
        x.run(false, 0);
        check.due("a run without room", Code.counts(x), List.of(0, 0, 0, 0, 0, 0));
    }

    private static void counted(Check check, String what, CallShaper x, int which, int want) {
        x.run(false, 60);
        check.due(what, x.count(which), want);
    }

    private static void valuesPutOut(Check check) {
        counted(check, "none", Code.program(Code.constant(1, 1)), 0, 0);
        counted(check, "one", Code.program(Code.out(1)), 0, 1);
        CallShaper x = Code.program(Code.times(4, Code.call(1, 0, 1)));
        Code.put(x, 0, 1, Code.times(10, Code.out(0)));
        counted(check, "forty", x, 0, 40);
        Code.put(x, 0, 0, Code.out(1));
        counted(check, "one that does not go out any more", x, 0, 40);
    }

    private static void objectsMade(Check check) {
        CallShaper x = Code.program(Code.make(1, 1), Code.make(1, 1), Code.answer(1));
        counted(check, "two and the run's", x, 1, 3);
        x.run(false, 2);
        check.due("the NEW that traps makes none", x.count(1), 2);
        x.shape();
        x.run(true, 60);
        check.due("shaped, but they get out", x.count(1), 3);
        x.strip(0, 0);
        Code.put(x, 0, 0, Code.make(1, 1), Code.make(2, 1), Code.answer(1));
        x.shape();
        x.run(true, 60);
        check.due("shaped, and one does not get out", x.count(1), 2);
    }

    private static void callsDone(Check check) {
        counted(check, "a CALL that traps with KIND", Code.program(Code.call(1, 1, 0)), 2, 0);
        counted(check, "a CALL that traps with TARGET", Code.program(Code.call(1, 0, 1)), 2, 0);
        counted(check, "the twelfth CALL down traps with DEEP", Code.program(Code.call(1, 0, 0)), 2, 11);
        CallShaper x = Code.program(Code.times(10, Code.call(1, 0, 1)));
        Code.put(x, 0, 1, Code.skip(1, 1), Code.call(1, 0, 2), Code.out(0));
        counted(check, "ten, and none that is left out", x, 2, 10);
        CallShaper half = Code.program(Code.call(1, 0, 1));
        Code.put(half, 0, 1, Code.cast(0, 1));
        counted(check, "one whose method traps", half, 2, 1);
    }

    private static void callsByClass(Check check) {
        CallShaper x = everySort();
        x.shape();
        x.run(true, 60);
        check.due("the virtual one alone", x.count(2), 1);
        x.run(false, 60);
        check.due("all of a run as it is", x.count(2), 3);
        CallShaper dead = Code.program(Code.call(1, 0, 1));
        dead.shape();
        Code.put(dead, 0, 1, Code.out(0));
        dead.run(true, 60);
        check.due("a DEAD one, which has a target now", Code.counts(dead), List.of(1, 1, 1, 2, 2, 2));
    }

    private static void framesMade(Check check) {
        counted(check, "the run's own", Code.program(Code.out(0)), 3, 1);
        counted(check, "none without a target", new CallShaper(), 3, 0);
        counted(check, "no thirteenth", Code.program(Code.call(1, 0, 0)), 3, 12);
        CallShaper x = everySort();
        counted(check, "as it is", x, 3, 4);
        x.shape();
        x.run(true, 60);
        check.due("all but the one in place", x.count(3), 3);
    }

    private static void operations(Check check) {
        counted(check, "one", Code.program(Code.out(0)), 4, 1);
        counted(check, "none without a target", new CallShaper(), 4, 0);
        counted(check, "those left out are not", Code.program(Code.skip(1, 1), Code.out(0), Code.out(0)), 4, 2);
        counted(check, "those behind a RETURN are not", Code.program(Code.answer(1), Code.out(0)), 4, 1);
        CallShaper x = everySort();
        counted(check, "those of calls are", x, 4, 12);
        x.shape();
        x.run(true, 60);
        check.due("those of calls in place, too", x.count(4), 12);
    }

    private static void mostFrames(Check check) {
        counted(check, "the run's own", Code.program(Code.out(0)), 5, 1);
        counted(check, "none without a target", new CallShaper(), 5, 0);
        counted(check, "twelve", Code.program(Code.call(1, 0, 0)), 5, 12);
        CallShaper x = Code.program(Code.times(3, Code.call(1, 0, 1)));
        Code.put(x, 0, 1, Code.out(0));
        counted(check, "one behind another are not more", x, 5, 2);
        x.shape();
        x.run(true, 60);
        check.due("one in place", Code.counts(x), List.of(3, 1, 0, 1, 6, 2));
        CallShaper down = Code.program(Code.call(1, 0, 1), Code.call(1, 0, 3));
        Code.put(down, 0, 1, Code.call(1, 0, 2));
        Code.put(down, 0, 2, Code.call(1, 0, 3));
        Code.put(down, 0, 3, Code.out(0));
        counted(check, "the greatest, not the last", down, 5, 4);
    }

    private static void noSuchCount(Check check) {
        CallShaper x = Code.program(Code.out(0));
        int[] wrong = {MIN, -1, NO_COUNT, MAX};
        for (int round = 0; round < 2; round++) {
            for (int what : wrong) {
                check.refused("count(" + what + ")", NoSuchElementException.class, () -> x.count(what));
            }
            check.due("run " + round, Code.counts(x), round == 0 ? List.of(0, 0, 0, 0, 0, 0) : List.of(1, 1, 0, 1, 1, 1));
            x.run(false, 1);
        }
    }

    private static void trapsAreCounted(Check check) {
        int[][] trapping = {Code.add(1, 0, 0), Code.less(1, 0, 0), Code.get(1, 1, 0), Code.set(1, 0, 0), Code.call(1, 1, 0), Code.cast(1, 0),
            Code.cast(0, 1), Code.make(1, 0), Code.call(1, 0, 3)};
        for (int[] operation : trapping) {
            CallShaper x = Code.program(Code.constant(2, 1), operation, Code.out(0));
            x.run(false, 1);
            check.due("kind " + operation[0], Code.counts(x), List.of(0, 1, 0, 1, 2, 1));
        }
        counted(check, "DEEP", Code.program(Code.constant(2, 1), Code.call(1, 0, 0)), 4, 24);
        CallShaper full = Code.program(Code.times(5, Code.call(1, 0, 1)));
        Code.put(full, 0, 1, Code.times(10, Code.out(0)));
        counted(check, "FULL", full, 4, 46);
    }

    private static void notAfterThe400th(Check check) {
        counted(check, "the 400th", Code.nearTheEnd(5, Code.out(0)), 4, 400);
        counted(check, "the 400th, which traps", Code.nearTheEnd(5, Code.cast(0, 1)), 4, 400);
        counted(check, "the 401st", Code.nearTheEnd(6, Code.out(0)), 4, 400);
        counted(check, "the 401st, which would trap", Code.nearTheEnd(6, Code.cast(0, 1)), 4, 400);
        CallShaper x = Code.nearTheEnd(6, Code.call(1, 0, 3));
        x.run(false, 1);
        check.due("the 401st, a CALL, is in no count", Code.counts(x), List.of(0, 1, 43, 44, 400, 3));
    }

    private static void theRunsObject(Check check) {
        CallShaper x = Code.program(Code.out(0));
        counted(check, "alone", x, 1, 1);
        x.shape();
        x.run(true, 1);
        check.due("shaped", x.count(1), 1);
        x.run(true, 0);
        check.due("no room for it", x.count(1), 0);
        counted(check, "without a target", new CallShaper(), 1, 1);
    }

    private static void asItsSiteSays(Check check) {
        CallShaper x = everySort();
        x.shape();
        Code.put(x, 0, 1, Code.times(9, Code.constant(1, 1)));
        x.strip(0, 2);
        Code.put(x, 0, 2, Code.out(0));
        x.strip(1, 3);
        x.run(true, 60);
        check.due("virtual, direct, in place: all targets changed", Code.counts(x), List.of(4, 2, 1, 3, 18, 2));
        check.due("the sites say so", Code.sites(x, 0, 0, 5), List.of(5, 6, 1, 2, 3));
        Code.types(x, 0);
        Code.put(x, 1, 1, Code.out(0));
        x.run(true, 60);
        check.due("another class has another target", Code.counts(x), List.of(4, 2, 1, 3, 18, 2));
        x.strip(0, 1);
        check.due("in place, and the target is gone", x.run(true, 60), 6);
        Code.put(x, 0, 1, Code.call(1, 0, 2));
        x.run(true, 60);
        check.due("in place, and the target calls", Code.counts(x), List.of(4, 2, 2, 4, 10, 3));
    }

    private static void valueK(Check check) {
        CallShaper x = Code.program(Code.out(0), Code.constant(1, MIN), Code.out(1), Code.make(1, 5), Code.out(1), Code.out(2));
        check.due("in their order", Code.ran(x, false, 2), "0 [1000, " + MIN + ", 1005, 0]");
        check.due("asked again", x.out(0), 1000);
        check.due("up to a trap", Code.ran(x, false, 1), "3 [1000, " + MIN + "]");
        x.strip(0, 0);
        x.shape();
        check.due("of the latest run, whatever was changed", x.out(1), MIN);
        CallShaper forty = Code.program(Code.times(4, Code.call(1, 0, 1)));
        Code.put(forty, 0, 1, Code.times(9, Code.out(0)));
        Code.put(forty, 0, 1, Code.out(1));
        forty.run(false, 1);
        check.due("the fortieth", forty.out(39), 0);
        check.due("the one before", forty.out(38), 1000);
    }

    private static void noValue(Check check, String when, CallShaper x, int... wrong) {
        for (int k : wrong) {
            check.refused(when + ": out(" + k + ")", NoSuchElementException.class, () -> x.out(k));
        }
    }

    private static void noSuchValue(Check check) {
        CallShaper x = Code.program(Code.out(0), Code.out(0), Code.make(1, 1), Code.out(0));
        noValue(check, "before a run", x, MIN, -1, 0, MAX);
        x.run(false, 2);
        noValue(check, "three values", x, MIN, -1, 3, 39, 40, MAX);
        x.run(false, 1);
        noValue(check, "two values", x, 2);
        x.run(false, 0);
        noValue(check, "none", x, 0);
        CallShaper forty = Code.program(Code.times(5, Code.call(1, 0, 1)));
        Code.put(forty, 0, 1, Code.times(10, Code.out(0)));
        forty.run(false, 1);
        noValue(check, "forty values", forty, 40, 41);
    }

    /** All that can be asked of an object without changing it; the bodies of everySort alone. */
    private static String seen(CallShaper x) {
        return x.reach() + " " + Code.sites(x, 0, 0, 6) + Code.sites(x, 0, 1, 1) + Code.sites(x, 0, 2, 4) + Code.counts(x)
            + Code.putOut(x);
    }

    private static void refusedCalls(Check check) {
        CallShaper x = everySort();
        Code.put(x, 1, 0, Code.times(10, Code.out(0)));
        Code.types(x, 0, 0, 0, 0);
        x.shape();
        x.run(true, 60);
        String before = seen(x);
        check.refused("type, full", IllegalStateException.class, () -> x.type(0));
        check.refused("type, no parent", IllegalArgumentException.class, () -> x.type(7));
        check.refused("operation, full", IllegalStateException.class, () -> x.operation(1, 0, 8, 0, 0, 0));
        for (int selector = 0; selector < 4; selector++) {
            int s = selector;
            check.refused("operation, no register", IllegalArgumentException.class, () -> x.operation(0, s, 8, 6, 0, 0));
            check.refused("operation, no kind", IllegalArgumentException.class, () -> x.operation(0, s, 12, 0, 0, 0));
            check.refused("strip, no class", IllegalArgumentException.class, () -> x.strip(6, s));
        }
        check.refused("strip, no selector", IllegalArgumentException.class, () -> x.strip(0, 4));
        check.refused("site", NoSuchElementException.class, () -> x.site(0, 0, 6));
        check.refused("run", IllegalArgumentException.class, () -> x.run(false, 61));
        check.refused("count", NoSuchElementException.class, () -> x.count(NO_COUNT));
        check.refused("out", NoSuchElementException.class, () -> x.out(40));
        check.due("all is as it was", seen(x), before);
        x.run(true, 60);
        check.due("a shaped run is as it was", seen(x), before);
        CallShaper full = Code.program(Code.make(1, 1));
        Code.put(full, 0, 0, Code.times(9, Code.out(0)));
        full.shape();
        check.refused("operation, the shaped body is full", IllegalStateException.class, () -> full.operation(0, 0, 11, 1, 0, 0));
        check.due("the full body was not changed", full.site(0, 0, 0), 5);
        check.due("its NEW is local still", full.run(true, 1), 0);
    }

    private static void manyCalls(Check check) {
        CallShaper x = new CallShaper();
        int calls = 0;
        for (int[] operation : new int[][] {Code.make(2, 1), Code.out(2), Code.call(1, 0, 0)}) {
            x.operation(0, 0, operation[0], operation[1], operation[2], operation[3]);
            calls++;
        }
        while (calls < 511) {
            x.shape();
            x.run(true, 1);
            calls += 2;
        }
        check.due("calls made", calls, 511);
        check.due("the 512th", x.count(4), 36);
    }
}
