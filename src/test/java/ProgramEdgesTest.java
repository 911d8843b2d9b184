import java.util.List;
import java.util.NoSuchElementException;

/** The edges that promises 1 to 4 name (a new object, type, operation, strip), sentence by sentence. */
public final class ProgramEdgesTest {
    private static final int MIN = Integer.MIN_VALUE;
    private static final int MAX = Integer.MAX_VALUE;
    private static final int KINDS = 12;

    public static void main(String[] args) {
        Check check = new Check();
        newObject(check);
        type(check);
        operation(check);
        strip(check);
        check.end();
    }

    private static void newObject(Check check) {
        check.sentence("Class 0", ProgramEdgesTest::class0Alone);
        check.sentence("no operations", ProgramEdgesTest::noOperations);
        check.sentence("nothing was shaped", ProgramEdgesTest::nothingShaped);
        check.sentence("nothing was .. run", ProgramEdgesTest::nothingRun);
    }

    private static void type(Check check) {
        check.sentence("Makes a class: its number.", ProgramEdgesTest::itsNumber);
        check.sentence("Throws IllegalArgumentException when parent is neither -1 nor a class", ProgramEdgesTest::noSuchParent);
        check.sentence("IllegalStateException when there are 6", ProgramEdgesTest::sixClasses);
    }

    private static void operation(Check check) {
        check.sentence("Puts an operation behind those of a class and a selector: how many there are then.",
            ProgramEdgesTest::howManyThereAre);
        check.sentence("when there is no such class", ProgramEdgesTest::noSuchClass);
        check.sentence("no such .. selector", ProgramEdgesTest::noSuchSelector);
        check.sentence("no such .. kind", ProgramEdgesTest::noSuchKind);
        check.sentence("a register is not 0 .. 5", ProgramEdgesTest::noSuchRegister);
        check.sentence("a field not 0 .. 2", ProgramEdgesTest::noSuchField);
        check.sentence("a selector not 0 .. 3", ProgramEdgesTest::noSelectorToCall);
        check.sentence("a class of NEW or CAST not 0 .. 5", ProgramEdgesTest::noClassToName);
        check.sentence("or y of SKIP not 0 .. 9", ProgramEdgesTest::noSuchSkip);
        check.sentence("IllegalStateException when there are 10", ProgramEdgesTest::tenOperations);
        check.sentence("(Numbers that an operation does not name do not count.)", ProgramEdgesTest::numbersNotNamed);
    }

    private static void strip(Check check) {
        check.sentence("Takes all operations of a class and a selector away: how many there were.", ProgramEdgesTest::howManyThereWere);
        check.sentence("Takes all operations .. away: a body that was full has room for ten again", ProgramEdgesTest::roomAgain);
        check.sentence("Throws IllegalArgumentException when there is no such class or selector.", ProgramEdgesTest::nothingToStrip);
    }

    private static void class0Alone(Check check) {
        CallShaper x = new CallShaper();
        check.due("class 0 is there", x.strip(0, 3), 0);
        check.refused("class 1 is not there", IllegalArgumentException.class, () -> x.strip(1, 0));
        check.due("the next is class 1", x.type(0), 1);
    }

    private static void noOperations(Check check) {
        CallShaper x = new CallShaper();
        for (int selector = 0; selector < 4; selector++) {
            int s = selector;
            check.refused("site(0, " + s + ", 0)", NoSuchElementException.class, () -> x.site(0, s, 0));
            check.due("strip(0, " + s + ")", x.strip(0, s), 0);
        }
        check.due("a run finds no target", x.run(false, 60), 6);
        check.due("a shaping finds no method", x.shape(), 0);
    }

    private static void nothingShaped(Check check) {
        CallShaper x = new CallShaper();
        check.due("reach()", x.reach(), 0);
        Code.put(x, 0, 0, Code.make(1, 1), Code.call(2, 0, 1));
        Code.put(x, 0, 1, Code.out(1));
        check.due("sites", Code.sites(x, 0, 0, 2), List.of(0, 0));
        x.run(true, 2);
        check.due("a shaped run is as one that is not", Code.counts(x), List.of(1, 2, 1, 2, 3, 2));
        check.due("a run shapes nothing", x.reach(), 0);
    }

    private static void nothingRun(Check check) {
        CallShaper x = new CallShaper();
        check.due("counts", Code.counts(x), List.of(0, 0, 0, 0, 0, 0));
        check.refused("out(0)", NoSuchElementException.class, () -> x.out(0));
        Code.put(x, 0, 0, Code.out(1));
        x.shape();
        check.due("operation and shape are no run", Code.counts(x), List.of(0, 0, 0, 0, 0, 0));
        check.refused("out(0) behind them", NoSuchElementException.class, () -> x.out(0));
    }

    private static void itsNumber(Check check) {
        int[] parents = {-1, 1, 0, -1, 4};
        CallShaper x = new CallShaper();
        for (int k = 0; k < parents.length; k++) {
            check.due("type(" + parents[k] + ")", x.type(parents[k]), k + 1);
        }
    }

    private static void noSuchParent(Check check) {
        CallShaper x = new CallShaper();
        for (int classes = 1; classes < 6; classes++) {
            int[] wrong = {MIN, -2, classes, classes + 1, 6, MAX};
            for (int parent : wrong) {
                check.refused(classes + " classes: type(" + parent + ")", IllegalArgumentException.class, () -> x.type(parent));
            }
            check.due("what was refused made no class", x.type(classes - 1), classes);
        }
    }

    private static void sixClasses(Check check) {
        CallShaper x = new CallShaper();
        Code.types(x, 0, 0, 0, 0);
        check.due("when there are five", x.type(4), 5);
        for (int parent = -1; parent <= 5; parent++) {
            int p = parent;
            check.refused("type(" + p + ")", IllegalStateException.class, () -> x.type(p));
        }
        check.refused("type(-2), which is no parent either", IllegalArgumentException.class, () -> x.type(-2));
        check.refused("type(6), which is no parent either", IllegalArgumentException.class, () -> x.type(6));
    }

    private static void howManyThereAre(Check check) {
        CallShaper x = new CallShaper();
        Code.types(x, 0);
        for (int type = 0; type < 2; type++) {
            for (int selector = 0; selector < 4; selector++) {
                check.due("first of " + type + ", " + selector, x.operation(type, selector, 8, 0, 0, 0), 1);
                check.due("second of " + type + ", " + selector, x.operation(type, selector, 8, 0, 0, 0), 2);
            }
        }
        check.due("behind those that there are", Code.ran(Code.constant(1, 5), Code.out(1), Code.constant(1, 6), Code.out(1)), "0 [5, 6]");
    }

    private static void wrong(Check check, CallShaper x, int... call) {
        String name = "operation" + java.util.Arrays.toString(call);
        check.refused(name, IllegalArgumentException.class, () -> x.operation(call[0], call[1], call[2], call[3], call[4], call[5]));
        check.due(name + " put nothing", x.strip(0, 0), 0);
    }

    private static void noSuchClass(Check check) {
        CallShaper x = new CallShaper();
        int[] none = {MIN, -1, 1, 5, 6, MAX};
        for (int type : none) {
            wrong(check, x, type, 0, 8, 0, 0, 0);
        }
        Code.types(x, 0, 0, 0, 0, 0);
        check.due("the last class", x.operation(5, 0, 8, 0, 0, 0), 1);
        wrong(check, x, 6, 0, 8, 0, 0, 0);
    }

    private static void noSuchSelector(Check check) {
        CallShaper x = new CallShaper();
        Code.types(x, 0);
        int[] none = {MIN, -1, 4, 5, MAX};
        for (int selector : none) {
            wrong(check, x, 0, selector, 8, 0, 0, 0);
        }
        check.due("the neighbour of selector 4 has nothing", x.strip(1, 0), 0);
        check.due("the last selector", x.operation(0, 3, 8, 0, 0, 0), 1);
    }

    private static void noSuchKind(Check check) {
        CallShaper x = new CallShaper();
        int[] none = {MIN, -1, KINDS, MAX};
        for (int kind : none) {
            wrong(check, x, 0, 0, kind, 0, 0, 0);
        }
        for (int kind = 0; kind < KINDS; kind++) {
            check.due("kind " + kind, x.operation(0, kind / 10, kind, 0, 0, 0), 1 + kind % 10);
        }
    }

    /** Number which (3 x, 4 y, 5 z) of a kind may be 0 to last, and nothing else. */
    private static void bounds(Check check, int kind, int which, int last) {
        CallShaper x = new CallShaper();
        int[] call = {0, 0, kind, 0, 0, 0};
        int[] outside = {MIN, -1, last + 1, MAX};
        for (int number : outside) {
            call[which] = number;
            wrong(check, x, call.clone());
        }
        for (int number = 0; number <= last; number++) {
            call[which] = number;
            check.due("kind " + kind + ", number " + number, x.operation(0, 0, kind, call[3], call[4], call[5]), number + 1);
        }
    }

    private static void noSuchRegister(Check check) {
        for (int kind = 0; kind < KINDS; kind++) {
            bounds(check, kind, 3, 5);
        }
        int[] withY = {1, 2, 3, 5, 6, 7};
        for (int kind : withY) {
            bounds(check, kind, 4, 5);
        }
        bounds(check, 2, 5, 5);
        bounds(check, 3, 5, 5);
    }

    private static void noSuchField(Check check) {
        bounds(check, 5, 5, 2);
        bounds(check, 6, 5, 2);
    }

    private static void noSelectorToCall(Check check) {
        bounds(check, 7, 5, 3);
    }

    private static void noClassToName(Check check) {
        // There is class 0 alone: the class need not be there.
        bounds(check, 4, 4, 5);
        bounds(check, 10, 4, 5);
    }

    private static void noSuchSkip(Check check) {
        bounds(check, 9, 4, 9);
    }

    private static void tenOperations(Check check) {
        CallShaper x = Code.program(Code.times(9, Code.out(0)));
        check.due("when there are nine", x.operation(0, 0, 8, 1, 0, 0), 10);
        for (int kind = 0; kind < KINDS; kind++) {
            int k = kind;
            check.refused("kind " + k, IllegalStateException.class, () -> x.operation(0, 0, k, 0, 0, 0));
        }
        check.refused("no such kind either", IllegalArgumentException.class, () -> x.operation(0, 0, KINDS, 0, 0, 0));
        check.refused("no such register either", IllegalArgumentException.class, () -> x.operation(0, 0, 8, 6, 0, 0));
        check.due("the body next to it has room", x.operation(0, 1, 8, 0, 0, 0), 1);
        check.due("ten are there", x.strip(0, 0), 10);
    }

    private static void numbersNotNamed(Check check) {
        int[] strange = {MIN, -1, 1, 6, 12, MAX};
        int[] withoutY = {8, 11};
        int[] withoutZ = {0, 1, 4, 8, 9, 10, 11};
        for (int number : strange) {
            for (int kind : withoutY) {
                check.due("kind " + kind + ", y " + number, new CallShaper().operation(0, 0, kind, 0, number, 0), 1);
            }
            for (int kind : withoutZ) {
                check.due("kind " + kind + ", z " + number, new CallShaper().operation(0, 0, kind, 0, 0, number), 1);
            }
            runsTheSame(check, number);
        }
    }

    private static void runsTheSame(Check check, int number) {
        int[][] operations = {{8, 4, number, number}, {0, 1, 7, number}, {4, 2, 1, number}, {1, 3, 2, number}, {8, 1, number, number},
            {10, 2, 1, number}, {9, 4, 1, number}, {8, 0, number, number}, {11, 1, number, number}, {8, 1, number, number}};
        CallShaper x = Code.program(operations);
        x.shape();
        check.due("not named: " + number + ", sites", Code.sites(x, 0, 0, 10), List.of(0, 0, 5, 0, 0, 0, 0, 0, 0, 0));
        check.due("not named: " + number + ", run", Code.ran(x, true, 1), "0 [0, 7]");
    }

    private static void howManyThereWere(Check check) {
        CallShaper x = new CallShaper();
        Code.types(x, 0);
        for (int many = 0; many <= 10; many++) {
            Code.put(x, 1, 2, Code.times(many, Code.out(0)));
            check.due("strip of " + many, x.strip(1, 2), many);
            check.due("and then none", x.strip(1, 2), 0);
        }
        check.refused("no operation is left", NoSuchElementException.class, () -> x.site(1, 2, 0));
        Code.put(x, 0, 3, Code.out(0));
        Code.put(x, 1, 0, Code.out(0));
        Code.put(x, 1, 1, Code.times(2, Code.out(0)));
        x.strip(1, 0);
        check.due("the bodies next to it stay", x.strip(0, 3) + x.strip(1, 1), 3);
    }

    private static void roomAgain(Check check) {
        CallShaper x = Code.program(Code.times(10, Code.out(0)));
        x.strip(0, 0);
        for (int many = 1; many <= 10; many++) {
            check.due("operation " + many + " again", x.operation(0, 0, 0, 1, many, 0), many);
        }
        check.refused("an eleventh again", IllegalStateException.class, () -> x.operation(0, 0, 0, 1, 11, 0));
        check.due("the new ones are run", Code.ran(x, false, 1), "0 []");
        x.strip(0, 0);
        Code.put(x, 0, 0, Code.make(1, 2), Code.call(2, 0, 1), Code.skip(2, 1), Code.answer(1));
        x.strip(0, 0);
        Code.put(x, 0, 0, Code.make(1, 3));
        x.shape();
        check.due("none of those taken away is shaped", x.reach(), 1 | 1 << 3 | 1 << 8);
        check.due("none of those taken away lets an object out", x.site(0, 0, 0), 5);
    }

    private static void nothingToStrip(Check check) {
        CallShaper x = Code.program(Code.out(0));
        int[] classes = {MIN, -1, 1, 5, 6, MAX};
        for (int type : classes) {
            check.refused("class " + type, IllegalArgumentException.class, () -> x.strip(type, 0));
        }
        int[] selectors = {MIN, -1, 4, MAX};
        for (int selector : selectors) {
            check.refused("selector " + selector, IllegalArgumentException.class, () -> x.strip(0, selector));
        }
        check.due("what was refused took nothing away", x.strip(0, 0), 1);
    }
}
