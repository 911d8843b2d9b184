/** Promise 2: type. */
public final class TypeTest {
    public static void main(String[] args) {
        Check check = new Check();
        numbersGoUpToFive(check);
        parentsMustBeThere(check);
        parentsGiveMethods(check);
        aChainOfSix(check);
        check.end();
    }

    private static void aChainOfSix(Check check) {
        CallShaper x = Code.program(Code.make(1, 5), Code.cast(1, 0), Code.call(2, 1, 3), Code.out(2));
        for (int parent = 0; parent < 5; parent++) {
            x.type(parent);
        }
        Code.put(x, 0, 3, Code.constant(2, 79), Code.answer(2));
        check.due("class 5 is class 0 over four others: run", x.run(false, 2), 0);
        check.due("class 5 has the method of class 0: out(0)", x.out(0), 79);
    }

    private static void numbersGoUpToFive(Check check) {
        CallShaper x = new CallShaper();
        for (int number = 1; number <= 5; number++) {
            check.due("type(" + (number - 2) + ")", x.type(number - 2), number);
        }
        check.refused("type(0) when there are six", IllegalStateException.class, () -> x.type(0));
        check.refused("type(-1) when there are six", IllegalStateException.class, () -> x.type(-1));
        check.refused("type(6) when there are six", IllegalArgumentException.class, () -> x.type(6));
        check.refused("type(-2) when there are six", IllegalArgumentException.class, () -> x.type(-2));
    }

    private static void parentsMustBeThere(Check check) {
        CallShaper x = new CallShaper();
        int[] wrong = {1, 2, 5, 6, -2, Integer.MAX_VALUE, Integer.MIN_VALUE};
        for (int parent : wrong) {
            check.refused("type(" + parent + ")", IllegalArgumentException.class, () -> x.type(parent));
        }
        check.due("what was refused made no class: type(0)", x.type(0), 1);
        check.due("type(1) once class 1 is there", x.type(1), 2);
    }

    private static void parentsGiveMethods(Check check) {
        CallShaper x = Code.program(Code.make(1, 2), Code.call(2, 1, 1), Code.out(2), Code.make(1, 3), Code.call(2, 1, 1));
        x.type(0);
        x.type(1);
        x.type(-1);
        Code.put(x, 0, 1, Code.constant(2, 77), Code.answer(2));
        check.due("class 3 is no child of class 0: run", x.run(false, 9), 6);
        check.due("class 2 has the method of its parent's parent: out(0)", x.out(0), 77);
        Code.put(x, 1, 1, Code.constant(2, 78), Code.answer(2));
        x.run(false, 9);
        check.due("the parent's method comes before that of its parent: out(0)", x.out(0), 78);
    }
}
