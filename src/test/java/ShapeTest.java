/** Promises 5 and 6: shape and reach. */
public final class ShapeTest {
    public static void main(String[] args) {
        Check check = new Check();
        withoutMethods(check);
        unreachedMethodsDoNotCount(check);
        classesMadeLaterCountForCallsBefore(check);
        unreachedBodiesMakeNothing(check);
        classesThatAreNotThere(check);
        everyBit(check);
        reachIsOfTheLatestShaping(check);
        aLongChain(check);
        check.end();
    }

    private static int method(int type, int selector) {
        return 1 << 8 + 4 * type + selector;
    }

    private static void shaped(Check check, String what, CallShaper x, int methods, int reach) {
        check.due(what + ": shape()", x.shape(), methods);
        check.due(what + ": reach()", x.reach(), reach);
    }

    private static void withoutMethods(Check check) {
        shaped(check, "without methods", new CallShaper(), 0, 1);
        CallShaper x = new CallShaper();
        Code.put(x, 0, 1, Code.make(1, 3));
        shaped(check, "without a target of selector 0", x, 0, 1);
    }

    private static void unreachedMethodsDoNotCount(Check check) {
        CallShaper x = Code.program(Code.call(1, 0, 1));
        x.type(0);
        Code.put(x, 0, 1, Code.out(1));
        Code.put(x, 0, 2, Code.out(1));
        Code.put(x, 1, 1, Code.out(1));
        Code.put(x, 1, 0, Code.out(1));
        shaped(check, "class 1 is not made", x, 2, 1 | method(0, 0) | method(0, 1));
        Code.put(x, 0, 1, Code.make(1, 1));
        shaped(check, "class 1 is made", x, 3, 3 | method(0, 0) | method(0, 1) | method(1, 1));
    }

    private static void classesMadeLaterCountForCallsBefore(Check check) {
        // The call of selector 1 stands in a body before the one that makes class 2, three steps on.
        CallShaper x = Code.program(Code.call(1, 0, 1), Code.call(1, 0, 2));
        x.type(-1);
        x.type(1);
        Code.put(x, 0, 2, Code.make(1, 2));
        Code.put(x, 1, 1, Code.call(1, 0, 3));
        Code.put(x, 2, 3, Code.out(0));
        shaped(check, "made later", x, 4, 5 | method(0, 0) | method(0, 2) | method(1, 1) | method(2, 3));
    }

    private static void unreachedBodiesMakeNothing(Check check) {
        CallShaper x = Code.program(Code.answer(0), Code.call(1, 0, 1));
        Code.put(x, 0, 1, Code.make(1, 4));
        Code.put(x, 0, 3, Code.make(1, 5));
        shaped(check, "operations behind a RETURN count", x, 2, 1 | 1 << 4 | method(0, 0) | method(0, 1));
    }

    private static void classesThatAreNotThere(Check check) {
        CallShaper x = Code.program(Code.make(1, 1), Code.call(1, 1, 1), Code.cast(1, 5));
        shaped(check, "class 1 is not there", x, 1, 3 | method(0, 0));
        x.type(0);
        Code.put(x, 0, 1, Code.out(1));
        Code.put(x, 1, 1, Code.out(1));
        shaped(check, "class 1 is there", x, 3, 3 | method(0, 0) | method(0, 1) | method(1, 1));
    }

    private static void everyBit(Check check) {
        CallShaper x = new CallShaper();
        for (int type = 1; type < 6; type++) {
            x.type(0);
        }
        for (int type = 0; type < 6; type++) {
            for (int selector = 0; selector < 4; selector++) {
                Code.put(x, type, selector, Code.call(1, 0, (selector + 1) % 4), Code.make(2, (type + 1) % 6));
            }
        }
        shaped(check, "all", x, 24, 0xffffff3f);
    }

    private static void reachIsOfTheLatestShaping(Check check) {
        CallShaper x = Code.program(Code.make(1, 2), Code.call(1, 0, 0));
        check.due("before: reach()", x.reach(), 0);
        shaped(check, "first", x, 1, 5 | method(0, 0));
        x.strip(0, 0);
        x.type(0);
        x.run(true, 1);
        check.due("a change alone: reach()", x.reach(), 5 | method(0, 0));
        shaped(check, "second", x, 0, 1);
    }

    private static void aLongChain(Check check) {
        // Each body makes the class whose method the next call needs, from high numbers down.
        CallShaper x = Code.program(Code.call(1, 0, 1), Code.make(1, 5));
        for (int type = 1; type < 6; type++) {
            x.type(-1);
        }
        int reach = 0x3f | method(0, 0);
        for (int type = 5; type > 0; type--) {
            Code.put(x, type, 1, Code.make(1, type - 1), Code.out(1));
            reach |= method(type, 1);
        }
        shaped(check, "a chain", x, 6, reach);
    }
}
