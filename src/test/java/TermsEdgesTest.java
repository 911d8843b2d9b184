/** The edges of classes, methods, frames and operations that the document names under 'Terms', sentence by sentence. */
public final class TermsEdgesTest {
    private static final int MIN = Integer.MIN_VALUE;
    private static final int MAX = Integer.MAX_VALUE;

    public static void main(String[] args) {
        Check check = new Check();
        classes(check);
        methods(check);
        operationsOnInts(check);
        operationsOnObjects(check);
        operationsThatLead(check);
        check.end();
    }

    private static void classes(Check check) {
        check.sentence("CLASSES have numbers 0, 1, .., at most 6", TermsEdgesTest::classNumbers);
        check.sentence("each has a PARENT, a class made before, or none", TermsEdgesTest::parents);
        check.sentence("class 0 is there at first, without one", TermsEdgesTest::class0);
        check.sentence("A class IS ANOTHER if that is itself, its parent, or its parent's parent, and so on.",
            TermsEdgesTest::classIsAnother);
        check.sentence("An object has a class and three FIELDS 0 .. 2.", TermsEdgesTest::fields);
        check.sentence("A VALUE is an int or an object.", TermsEdgesTest::valuesOfBothKinds);
    }

    private static void methods(Check check) {
        check.sentence("A METHOD of a class and a SELECTOR 0 .. 3 is a BODY", TermsEdgesTest::everyMethod);
        check.sentence("a BODY of at most 10 OPERATIONS", TermsEdgesTest::tenOperations);
        check.sentence("a class that has no operation for a selector has none of its own", TermsEdgesTest::emptyBodies);
        check.sentence("The TARGET of a selector for a class is the method of that class or, if it has none, the target for its "
            + "parent", TermsEdgesTest::targets);
        check.sentence("without a parent there is none", TermsEdgesTest::noTarget);
        check.sentence("A FRAME has REGISTERS 0 .. 5, all the int 0 at first.", TermsEdgesTest::registers);
    }

    private static void operationsOnInts(Check check) {
        check.sentence("0 CONST: register x becomes the int y.", TermsEdgesTest::constants);
        check.sentence("1 MOVE: x becomes register y.", TermsEdgesTest::moves);
        check.sentence("2 ADD: x becomes the sum of y and z (ints, which wrap).", TermsEdgesTest::sums);
        check.sentence("3 LESS: x becomes 1 if y is less than z (ints), else 0.", TermsEdgesTest::less);
    }

    private static void operationsOnObjects(Check check) {
        check.sentence("4 NEW: x becomes a new object of class y, its fields the int 0.", TermsEdgesTest::newObjects);
        check.sentence("5 GET: x becomes field z of y.", TermsEdgesTest::gets);
        check.sentence("6 SET: field z of x becomes y.", TermsEdgesTest::sets);
        check.sentence("8 OUT: register x is put out: an int as it is, an object as 1000 and its class.", TermsEdgesTest::outs);
        check.sentence("10 CAST: nothing, if x is an object whose class IS y", TermsEdgesTest::casts);
    }

    private static void operationsThatLead(Check check) {
        check.sentence("7 CALL: x becomes what selector z of y answers", TermsEdgesTest::calls);
        check.sentence("a frame is made for the target of the class of y", TermsEdgesTest::byTheClassOfY);
        check.sentence("in which register 0 is y and register 1 the caller's register 5", TermsEdgesTest::handedOver);
        check.sentence("9 SKIP: if x is the int 0", TermsEdgesTest::skipIfZero);
        check.sentence("the next y operations are left out", TermsEdgesTest::skipAsMany);
        check.sentence("(as far as there are such)", TermsEdgesTest::skipOverTheEnd);
        check.sentence("11 RETURN: the method answers x.", TermsEdgesTest::returns);
        check.sentence("Behind the last operation it answers the int 0.", TermsEdgesTest::behindTheLast);
    }

    private static void classNumbers(Check check) {
        CallShaper x = new CallShaper();
        for (int number = 1; number <= 5; number++) {
            check.due("class " + number, x.type(-1), number);
        }
        check.refused("a seventh class", IllegalStateException.class, () -> x.type(-1));
        check.refused("a body of class 6", IllegalArgumentException.class, () -> x.operation(6, 3, 8, 0, 0, 0));
        Code.put(x, 0, 0, Code.make(1, 5), Code.call(2, 1, 3));
        Code.put(x, 5, 3, Code.out(0));
        check.due("the sixth class has objects and methods", Code.ran(x, false, 2), "0 [1005]");
    }

    private static void parents(Check check) {
        CallShaper x = new CallShaper();
        for (int number = 1; number <= 5; number++) {
            int own = number;
            check.refused("class " + own + " as its own parent", IllegalArgumentException.class, () -> x.type(own));
            check.refused("a later class as a parent", IllegalArgumentException.class, () -> x.type(own + 1));
            check.due("the class right before as a parent", x.type(own - 1), own);
        }
        CallShaper none = Code.program(Code.make(1, 1), Code.cast(1, 0));
        none.type(-1);
        check.due("a class of no parent is not class 0", none.run(false, 2), 2);
    }

    private static void class0(Check check) {
        CallShaper x = new CallShaper();
        Code.types(x, 0, 0, -1, 3, 4);
        for (int type = 1; type < 6; type++) {
            Code.put(x, type, 0, Code.out(0));
        }
        check.due("no other class gives class 0 a target", x.run(false, 1), 6);
        for (int type = 1; type < 6; type++) {
            x.strip(0, 0);
            Code.put(x, 0, 0, Code.cast(0, 0), Code.out(0), Code.cast(0, type));
            check.due("class 0 is class 0, but not class " + type, Code.ran(x, false, 1), "2 [1000]");
        }
    }

    private static void classIsAnother(Check check) {
        CallShaper chain = new CallShaper();
        Code.types(chain, 0, 1, 2, 3, 4);
        for (int type = 0; type < 6; type++) {
            for (int other = 0; other < 6; other++) {
                check.due("a chain: class " + type + " is " + other, castOf(chain, type, other), other <= type ? 0 : 2);
            }
        }
        CallShaper brothers = new CallShaper();
        Code.types(brothers, 0, 0, 1);
        check.due("a brother", castOf(brothers, 1, 2), 2);
        check.due("an elder brother", castOf(brothers, 2, 1), 2);
        check.due("a parent's brother", castOf(brothers, 3, 2), 2);
        check.due("a parent's parent", castOf(brothers, 3, 0), 0);
        check.due("a class that is not there is itself", castOf(brothers, 5, 5), 0);
        check.due("a class that is not there is no other", castOf(brothers, 5, 4), 2);
    }

    /** How a run ends that makes an object of a class and casts it to another. */
    private static int castOf(CallShaper x, int type, int other) {
        x.strip(0, 0);
        Code.put(x, 0, 0, Code.make(1, type), Code.cast(1, other));
        return x.run(false, 2);
    }

    private static void fields(Check check) {
        CallShaper x = Code.program(Code.make(1, 0), Code.constant(2, 20), Code.set(0, 2, 0), Code.constant(2, 21), Code.set(0, 2, 1),
            Code.constant(2, 22), Code.set(0, 2, 2), Code.call(3, 0, 1), Code.call(3, 1, 1));
        Code.put(x, 0, 1, Code.get(2, 0, 0), Code.out(2), Code.get(2, 0, 1), Code.out(2), Code.get(2, 0, 2), Code.out(2));
        check.due("three fields of two objects", Code.ran(x, false, 2), "0 [20, 21, 22, 0, 0, 0]");
        int[] wrong = {-1, 3};
        for (int field : wrong) {
            check.refused("GET of field " + field, IllegalArgumentException.class, () -> Code.program(Code.get(1, 0, field)));
            check.refused("SET of field " + field, IllegalArgumentException.class, () -> Code.program(Code.set(0, 1, field)));
        }
    }

    private static void valuesOfBothKinds(Check check) {
        check.due("a register holds either", Code.ran(Code.make(1, 3), Code.out(1), Code.constant(1, 3), Code.out(1)), "0 [1003, 3]");
        check.due("a field holds either", Code.ran(Code.set(0, 0, 1), Code.get(2, 0, 1), Code.out(2), Code.set(0, 1, 1),
            Code.get(2, 0, 1), Code.out(2)), "0 [1000, 0]");
        check.due("an int is no object, whatever its size", Code.ran(Code.constant(1, 1000), Code.cast(1, 0)), "1 []");
        check.due("an object is no int", Code.ran(Code.add(1, 1, 0)), "1 []");
    }

    private static void everyMethod(Check check) {
        CallShaper x = new CallShaper();
        Code.types(x, 0, 0, 0, 0, 0);
        for (int type = 0; type < 6; type++) {
            for (int selector = type == 0 ? 1 : 0; selector < 4; selector++) {
                Code.put(x, type, selector, Code.constant(2, 10 * type + selector), Code.answer(2));
                x.strip(0, 0);
                Code.put(x, 0, 0, Code.make(1, type), Code.call(2, 1, selector), Code.out(2));
                check.due("class " + type + " selector " + selector, Code.ran(x, false, 2), "0 [" + (10 * type + selector) + "]");
            }
        }
        int[] wrong = {-1, 4};
        for (int selector : wrong) {
            check.refused("a body of selector " + selector, IllegalArgumentException.class, () -> x.operation(5, selector, 8, 0, 0, 0));
            check.refused("CALL of selector " + selector, IllegalArgumentException.class, () -> x.operation(5, 0, 7, 0, 0, selector));
        }
    }

    private static void tenOperations(Check check) {
        CallShaper x = new CallShaper();
        for (int many = 1; many <= 10; many++) {
            check.due("operation " + many, x.operation(0, 0, 8, 0, 0, 0), many);
            x.run(false, 1);
            check.due(many + " operations are done", x.count(4), many);
        }
        check.refused("operation 11", IllegalStateException.class, () -> x.operation(0, 0, 8, 0, 0, 0));
        check.due("ten are done still", Code.ran(x, false, 1), "0 " + java.util.Collections.nCopies(10, 1000));
    }

    private static void emptyBodies(Check check) {
        CallShaper x = Code.program(Code.make(1, 1), Code.call(2, 1, 1), Code.out(2));
        Code.types(x, 0);
        Code.put(x, 0, 1, Code.constant(2, 5), Code.answer(2));
        check.due("never an operation", Code.ran(x, false, 2), "0 [5]");
        Code.put(x, 1, 1, Code.out(0));
        check.due("one operation is a method", Code.ran(x, false, 2), "0 [1001, 0]");
        x.strip(1, 1);
        check.due("all operations taken away", Code.ran(x, false, 2), "0 [5]");
        check.refused("an operation that is refused", IllegalArgumentException.class, () -> x.operation(1, 1, 8, 6, 0, 0));
        check.due("an operation that is refused makes no method", Code.ran(x, false, 2), "0 [5]");
    }

    private static void targets(Check check) {
        CallShaper x = Code.program(Code.make(1, 5), Code.call(2, 1, 3), Code.out(2));
        Code.types(x, 0, 1, 2, 3, 4);
        for (int type = 0; type < 6; type++) {
            Code.put(x, type, 3, Code.constant(2, type), Code.answer(2));
            check.due("the nearest of " + (type + 1) + " methods", Code.ran(x, false, 2), "0 [" + type + "]");
        }
        for (int type = 1; type < 5; type++) {
            x.strip(type, 3);
        }
        check.due("its own, with a gap above", Code.ran(x, false, 2), "0 [5]");
        x.strip(5, 3);
        check.due("that of the parent's parent's .. parent", Code.ran(x, false, 2), "0 [0]");
        Code.put(x, 5, 2, Code.out(0));
        check.due("another selector's method is no target", Code.ran(x, false, 2), "0 [0]");
    }

    private static void noTarget(Check check) {
        CallShaper x = Code.program(Code.make(1, 2), Code.call(2, 1, 1));
        Code.types(x, -1, 1, 2);
        Code.put(x, 0, 1, Code.out(0));
        Code.put(x, 3, 1, Code.out(0));
        check.due("neither class 0 nor a child gives one", Code.ran(x, false, 2), "6 []");
        Code.put(x, 1, 1, Code.out(0));
        check.due("the parent gives one", Code.ran(x, false, 2), "0 [1002]");
    }

    private static void registers(Check check) {
        check.due("the run's own frame", Code.ran(Code.out(0), Code.out(1), Code.out(2), Code.out(3), Code.out(4), Code.out(5)),
            "0 [1000, 0, 0, 0, 0, 0]");
        CallShaper x = Code.program(Code.constant(2, 1), Code.constant(3, 2), Code.call(1, 0, 1), Code.call(1, 0, 2), Code.call(1, 0, 1));
        Code.put(x, 0, 1, Code.out(1), Code.out(2), Code.out(3), Code.out(4), Code.out(5));
        Code.put(x, 0, 2, Code.move(1, 0), Code.move(2, 0), Code.move(3, 0), Code.constant(4, 7), Code.constant(5, 7));
        String ten = "0 " + java.util.Collections.nCopies(10, 0);
        check.due("a frame behind one that left values", Code.ran(x, false, 1), ten);
        check.due("the same in a second run", Code.ran(x, false, 1), ten);
        int[] wrong = {-1, 6};
        for (int register : wrong) {
            check.refused("OUT of register " + register, IllegalArgumentException.class, () -> Code.program(Code.out(register)));
        }
    }

    private static void constants(Check check) {
        int[] values = {MIN, -1, 0, 1, MAX};
        for (int value : values) {
            check.due("CONST " + value, Code.ran(Code.constant(5, value), Code.out(5), Code.constant(0, value), Code.out(0)),
                "0 [" + value + ", " + value + "]");
        }
    }

    private static void moves(Check check) {
        check.due("onto itself", Code.ran(Code.constant(2, 9), Code.move(2, 2), Code.out(2)), "0 [9]");
        check.due("between the first and the last", Code.ran(Code.move(5, 0), Code.out(5), Code.constant(5, 4), Code.move(0, 5),
            Code.out(0), Code.out(5)), "0 [1000, 4, 4]");
        check.due("the same object, no other", Code.ran(Code.move(1, 0), Code.constant(2, 8), Code.set(1, 2, 0), Code.get(3, 0, 0),
            Code.out(3)), "0 [8]");
    }

    private static String outOf(int[] operation, int left, int right) {
        return Code.ran(Code.constant(3, left), Code.constant(4, right), operation, Code.out(2));
    }

    private static void sums(Check check) {
        int[][] edges = {{MAX, 1, MIN}, {1, MAX, MIN}, {MIN, -1, MAX}, {MIN, MIN, 0}, {MAX, MAX, -2}, {MIN, MAX, -1}, {0, 0, 0}, {-1, 1, 0}};
        for (int[] e : edges) {
            check.due(e[0] + " + " + e[1], outOf(Code.add(2, 3, 4), e[0], e[1]), "0 [" + e[2] + "]");
        }
        check.due("x, y and z the same", Code.ran(Code.constant(1, MIN), Code.add(1, 1, 1), Code.out(1)), "0 [0]");
        check.due("a sum that wrapped is an int", Code.ran(Code.constant(1, MAX), Code.constant(2, 1), Code.add(1, 1, 2),
            Code.less(3, 1, 2), Code.out(3)), "0 [1]");
        check.due("a sum that wrapped to 0 is the int 0", Code.ran(Code.constant(1, MIN), Code.add(1, 1, 1), Code.skip(1, 1),
            Code.out(1)), "0 []");
    }

    private static void less(Check check) {
        int[][] edges = {{MIN, MAX, 1}, {MAX, MIN, 0}, {MIN, MIN, 0}, {MAX, MAX, 0}, {-1, 0, 1}, {0, -1, 0}, {MAX - 1, MAX, 1},
            {MIN, MIN + 1, 1}, {0, 0, 0}};
        for (int[] e : edges) {
            check.due(e[0] + " < " + e[1], outOf(Code.less(2, 3, 4), e[0], e[1]), "0 [" + e[2] + "]");
        }
        check.due("x is z", Code.ran(Code.constant(1, 5), Code.less(1, 2, 1), Code.out(1)), "0 [1]");
        check.due("else 0, whatever x was", Code.ran(Code.constant(1, 5), Code.less(1, 1, 2), Code.out(1)), "0 [0]");
    }

    private static void newObjects(Check check) {
        for (int type = 0; type < 6; type++) {
            check.due("class " + type, Code.ran(Code.make(type, type), Code.out(type)), "0 [" + (1000 + type) + "]");
        }
        CallShaper x = Code.program(Code.call(1, 0, 1), Code.call(1, 0, 1));
        Code.put(x, 0, 1, Code.make(2, 0), Code.get(3, 2, 0), Code.out(3), Code.get(3, 2, 2), Code.out(3), Code.set(2, 2, 0),
            Code.set(2, 0, 2));
        check.due("fields behind another object's", Code.ran(x, false, 3), "0 [0, 0, 0, 0]");
        check.due("fields behind another run's", Code.ran(x, false, 3), "0 [0, 0, 0, 0]");
        check.due("each NEW makes its own", Code.ran(Code.make(1, 0), Code.make(2, 0), Code.constant(3, 6), Code.set(1, 3, 0),
            Code.get(4, 2, 0), Code.out(4)), "0 [0]");
    }

    private static void gets(Check check) {
        check.due("x is y", Code.ran(Code.constant(1, 4), Code.set(0, 1, 2), Code.get(0, 0, 2), Code.out(0)), "0 [4]");
        check.due("an object's own field holds the object", Code.ran(Code.set(0, 0, 0), Code.get(1, 0, 0), Code.get(2, 1, 0),
            Code.out(2)), "0 [1000]");
        check.due("a field that was never set", Code.ran(Code.constant(1, 4), Code.get(1, 0, 1), Code.out(1)), "0 [0]");
    }

    private static void sets(Check check) {
        check.due("twice", Code.ran(Code.constant(1, 4), Code.set(0, 1, 0), Code.set(0, 2, 0), Code.get(1, 0, 0), Code.out(1)), "0 [0]");
        check.due("the field keeps what the register had", Code.ran(Code.constant(1, 4), Code.set(0, 1, 0), Code.constant(1, 5),
            Code.get(2, 0, 0), Code.out(2)), "0 [4]");
        check.due("registers stay", Code.ran(Code.constant(1, 4), Code.set(0, 1, 0), Code.out(0), Code.out(1)), "0 [1000, 4]");
    }

    private static void outs(Check check) {
        int[] values = {MIN, -1, 0, 1, 999, 1000, 1005, MAX};
        for (int value : values) {
            check.due("the int " + value, Code.ran(Code.constant(3, value), Code.out(3)), "0 [" + value + "]");
        }
        check.due("objects of the first and the last class", Code.ran(Code.make(3, 5), Code.out(3), Code.out(0)), "0 [1005, 1000]");
    }

    private static void casts(Check check) {
        check.due("x stays", Code.ran(Code.cast(0, 0), Code.out(0)), "0 [1000]");
        CallShaper x = Code.program(Code.make(5, 1), Code.cast(5, 0), Code.cast(5, 1), Code.out(5));
        Code.types(x, 0);
        check.due("x stays of its class", Code.ran(x, false, 2), "0 [1001]");
    }

    private static void calls(Check check) {
        for (int register = 0; register < 6; register++) {
            CallShaper x = Code.program(Code.call(register, 0, 3), Code.out(register));
            Code.put(x, 0, 3, Code.constant(2, 7), Code.answer(2));
            check.due("x is " + register, Code.ran(x, false, 1), "0 [7]");
        }
        CallShaper x = Code.program(Code.constant(1, 1), Code.constant(2, 2), Code.constant(4, 4), Code.call(3, 0, 1), Code.out(1),
            Code.out(2), Code.out(3), Code.out(4), Code.out(5), Code.out(0));
        Code.put(x, 0, 1, Code.constant(1, 9), Code.constant(2, 9), Code.constant(4, 9), Code.constant(5, 9), Code.make(0, 5),
            Code.answer(0));
        check.due("the caller's other registers stay", Code.ran(x, false, 2), "0 [1, 2, 1005, 4, 0, 1000]");
    }

    private static void byTheClassOfY(Check check) {
        CallShaper x = Code.program(Code.make(2, 1), Code.call(3, 2, 1), Code.out(3), Code.call(3, 0, 1), Code.out(3));
        Code.types(x, 0);
        Code.put(x, 0, 1, Code.constant(2, 50), Code.answer(2));
        Code.put(x, 1, 1, Code.call(2, 0, 2), Code.answer(2));
        Code.put(x, 0, 2, Code.constant(2, 60), Code.answer(2));
        check.due("class 1, then class 0", Code.ran(x, false, 2), "0 [60, 50]");
        Code.put(x, 1, 2, Code.constant(2, 61), Code.answer(2));
        check.due("of the object, not of the class whose method calls", Code.ran(x, false, 2), "0 [61, 50]");
    }

    private static void handedOver(Check check) {
        CallShaper x = Code.program(Code.make(4, 1), Code.make(5, 2), Code.call(3, 4, 1), Code.call(3, 5, 1));
        Code.types(x, 0, 0);
        Code.put(x, 0, 1, Code.out(0), Code.out(1), Code.out(4), Code.out(5));
        check.due("y, and register 5; y may be register 5", Code.ran(x, false, 3), "0 [1001, 1002, 0, 0, 1002, 1002, 0, 0]");
        CallShaper own = Code.program(Code.constant(5, 6), Code.call(5, 0, 1), Code.call(3, 0, 1));
        Code.put(own, 0, 1, Code.out(1), Code.constant(2, 8), Code.constant(5, 3), Code.answer(2));
        check.due("register 5 as it is when the call is done", Code.ran(own, false, 1), "0 [6, 8]");
    }

    private static void skipIfZero(Check check) {
        int[] others = {1, -1, MIN, MAX};
        for (int value : others) {
            check.due("SKIP of " + value, Code.ran(Code.constant(1, value), Code.skip(1, 1), Code.out(2)), "0 [0]");
        }
        check.due("SKIP of 0", Code.ran(Code.skip(1, 1), Code.out(2)), "0 []");
        check.due("SKIP of the first object", Code.ran(Code.skip(0, 1), Code.out(2)), "0 [0]");
        check.due("SKIP of another object", Code.ran(Code.make(1, 0), Code.skip(1, 1), Code.out(2)), "0 [0]");
    }

    private static void skipAsMany(Check check) {
        for (int many = 0; many <= 9; many++) {
            CallShaper x = Code.program(Code.skip(1, many));
            Code.put(x, 0, 0, Code.times(9, Code.out(1)));
            x.run(false, 1);
            check.due("SKIP of " + many + " of nine: as many are put out", x.count(0), 9 - many);
            check.due("SKIP of " + many + " of nine: as many are done", x.count(4), 10 - many);
        }
        check.due("a SKIP among those left out", Code.ran(Code.skip(1, 1), Code.skip(1, 1), Code.out(2)), "0 [0]");
    }

    private static void skipOverTheEnd(Check check) {
        CallShaper x = Code.program(Code.call(2, 0, 1), Code.out(0), Code.call(2, 0, 2), Code.out(0), Code.call(2, 0, 3), Code.out(0));
        Code.put(x, 0, 1, Code.skip(1, 9));
        Code.put(x, 0, 2, Code.skip(1, 2), Code.out(1));
        Code.put(x, 0, 3, Code.skip(1, 1), Code.out(1));
        check.due("the caller's operations are not left out", Code.ran(x, false, 1), "0 [1000, 1000, 1000]");
        check.due("from the run's own body", Code.ran(Code.skip(1, 9), Code.out(1)), "0 []");
        CallShaper last = Code.program(Code.times(9, Code.constant(2, 1)));
        Code.put(last, 0, 0, Code.skip(1, 9));
        check.due("from the tenth operation", Code.ran(last, false, 1), "0 []");
    }

    private static void returns(Check check) {
        CallShaper x = Code.program(Code.make(5, 4), Code.call(2, 0, 1), Code.out(2), Code.call(2, 0, 2), Code.out(2));
        Code.put(x, 0, 1, Code.answer(1), Code.out(0));
        Code.put(x, 0, 2, Code.constant(5, MIN), Code.answer(5), Code.out(0));
        check.due("an object, an int, and nothing behind it is done", Code.ran(x, false, 2), "0 [1004, " + MIN + "]");
        check.due("of the run's own call", Code.ran(Code.answer(0), Code.out(0)), "0 []");
    }

    private static void behindTheLast(Check check) {
        CallShaper x = Code.program(Code.call(0, 0, 1), Code.out(0));
        Code.put(x, 0, 1, Code.constant(0, 5), Code.constant(1, 5));
        check.due("x is 0, whatever it was", Code.ran(x, false, 1), "0 [0]");
        // The last operation of each of twelve frames is the call of the next one.
        CallShaper deep = Code.program(Code.constant(2, 1), Code.add(5, 1, 2), Code.constant(3, 11), Code.less(3, 1, 3), Code.skip(3, 9),
            Code.call(4, 0, 0));
        check.due("of all frames at once", Code.ran(deep, false, 1), "0 []");
        check.due("of all frames at once: all were there", deep.count(5), 12);
    }
}
