import java.util.Collections;
import java.util.List;

/** The edges of the shaping and of the shaped run that the document names under 'Terms', sentence by sentence. */
public final class ShapingEdgesTest {
    private static final int VIRTUAL = 1;
    private static final int DIRECT = 2;
    private static final int IN_PLACE = 3;
    private static final int DEAD = 4;
    private static final int LOCAL = 5;
    private static final int NOT_LOCAL = 6;

    public static void main(String[] args) {
        Check check = new Check();
        madeAndReached(check);
        calls(check);
        objects(check);
        shapedRuns(check);
        check.end();
    }

    private static void madeAndReached(Check check) {
        check.sentence("MADE classes and REACHED methods are the least sets", ShapingEdgesTest::leastSets);
        check.sentence("class 0 is made", ShapingEdgesTest::class0IsMade);
        check.sentence("the target of selector 0 for class 0, if there is one, is reached", ShapingEdgesTest::firstMethod);
        check.sentence("the class of each NEW in a reached body is made", ShapingEdgesTest::classesOfNews);
        check.sentence("for each CALL in a reached body and each made class the target of its selector, if there is one, is reached",
            ShapingEdgesTest::targetsOfCalls);
        check.sentence("the least sets for which", ShapingEdgesTest::theLongestChain);
    }

    private static void calls(Check check) {
        check.sentence("A CALL in a reached body is DEAD if no made class has a target for its selector", ShapingEdgesTest::dead);
        check.sentence("DIRECT if all that have one have the same", ShapingEdgesTest::direct);
        check.sentence("otherwise VIRTUAL", ShapingEdgesTest::virtual);
        check.sentence("One that is direct is IN PLACE if its target's body has at most 3 operations", ShapingEdgesTest::threeOperations);
        check.sentence("none of which is a CALL or SKIP", ShapingEdgesTest::neitherCallNorSkip);
    }

    private static void objects(Check check) {
        check.sentence("A NEW in a reached body is LOCAL if its object does not get out", ShapingEdgesTest::local);
        check.sentence("a HOLDER is register x of the NEW, and register x of each MOVE whose y is a holder", ShapingEdgesTest::holders);
        check.sentence("it gets out if a holder is y of a SET", ShapingEdgesTest::outBySet);
        check.sentence("it gets out if a holder is y of .. a CALL", ShapingEdgesTest::outByCall);
        check.sentence("it gets out if a holder is .. x of a RETURN", ShapingEdgesTest::outByReturn);
        check.sentence("it gets out if a holder is .. register 5 in a body with a CALL", ShapingEdgesTest::outByRegister5);
        check.sentence("(The order of operations does not count.)", ShapingEdgesTest::anyOrder);
    }

    private static void shapedRuns(Check check) {
        check.sentence("A SHAPED run is the same", ShapingEdgesTest::theSame);
        check.sentence("objects made by local NEWs take no room of the heap", ShapingEdgesTest::noRoom);
        check.sentence("and are not counted as made", ShapingEdgesTest::notCounted);
        check.sentence("It is run with what the latest shaping said", ShapingEdgesTest::latestShaping);
        check.sentence("operations of a body that was changed since are as they were not shaped (VIRTUAL, not local)",
            ShapingEdgesTest::changedSince);
    }

    private static int method(int type, int selector) {
        return 1 << 8 + 4 * type + selector;
    }

    private static void shaped(Check check, String what, CallShaper x, int methods, int reach) {
        check.due(what + ": methods", x.shape(), methods);
        check.due(what + ": bits", x.reach(), reach);
    }

    private static void leastSets(Check check) {
        // Selectors 1 and 2 call one another and make the class that has them: nothing else leads to them.
        CallShaper x = Code.program(Code.out(0));
        Code.types(x, 0);
        for (int type = 0; type < 2; type++) {
            Code.put(x, type, 1, Code.make(1, 1), Code.call(1, 0, 2));
            Code.put(x, type, 2, Code.make(1, 1), Code.call(1, 0, 1));
        }
        Code.put(x, 1, 0, Code.call(1, 0, 1));
        shaped(check, "bodies that only lead to one another", x, 1, 1 | method(0, 0));
        Code.put(x, 0, 0, Code.call(1, 0, 2));
        shaped(check, "and one call that leads to them", x, 5,
            3 | method(0, 0) | method(0, 1) | method(0, 2) | method(1, 1) | method(1, 2));
    }

    private static void class0IsMade(Check check) {
        shaped(check, "nothing is there", new CallShaper(), 0, 1);
        CallShaper x = Code.program(Code.make(1, 1), Code.call(2, 1, 1));
        Code.types(x, 0);
        Code.put(x, 0, 1, Code.out(0));
        Code.put(x, 1, 1, Code.out(0));
        shaped(check, "no NEW of class 0", x, 3, 3 | method(0, 0) | method(0, 1) | method(1, 1));
    }

    private static void firstMethod(Check check) {
        CallShaper x = new CallShaper();
        Code.types(x, 0);
        Code.put(x, 1, 0, Code.out(0));
        Code.put(x, 0, 3, Code.out(0));
        shaped(check, "there is none", x, 0, 1);
        Code.put(x, 0, 0, Code.make(1, 1));
        shaped(check, "there is one, and that of class 1 is not called", x, 1, 3 | method(0, 0));
        Code.put(x, 0, 0, Code.call(2, 1, 0));
        shaped(check, "that of class 1 is called", x, 2, 3 | method(0, 0) | method(1, 0));
    }

    private static void classesOfNews(Check check) {
        CallShaper x = Code.program(Code.skip(1, 9), Code.make(1, 1), Code.answer(1), Code.make(1, 5), Code.cast(1, 4), Code.constant(1, 3));
        Code.put(x, 0, 1, Code.make(1, 2));
        shaped(check, "left out, behind a RETURN; but no CAST, CONST, nor other bodies", x, 1, 1 | 1 << 1 | 1 << 5 | method(0, 0));
        CallShaper every = Code.program(Code.make(1, 0), Code.make(1, 1), Code.make(1, 2), Code.make(1, 3), Code.make(1, 4),
            Code.make(1, 5));
        shaped(check, "every class", every, 1, 0x3f | method(0, 0));
    }

    private static void targetsOfCalls(Check check) {
        CallShaper x = Code.program(Code.call(1, 0, 3), Code.call(1, 0, 2));
        Code.types(x, -1, 1, 2);
        Code.put(x, 0, 2, Code.make(1, 3));
        Code.put(x, 1, 3, Code.out(0));
        Code.put(x, 2, 3, Code.out(0));
        Code.put(x, 2, 1, Code.out(0));
        shaped(check, "the target of a class made later, over its parent; the nearest alone", x, 3,
            1 | 1 << 3 | method(0, 0) | method(0, 2) | method(2, 3));
        x.strip(2, 3);
        shaped(check, "over its parent's parent", x, 3, 1 | 1 << 3 | method(0, 0) | method(0, 2) | method(1, 3));
        x.strip(1, 3);
        shaped(check, "if there is one", x, 2, 1 | 1 << 3 | method(0, 0) | method(0, 2));
    }

    private static void theLongestChain(Check check) {
        // Each of ten bodies makes one class or calls one selector, without which the next one is not reached.
        CallShaper x = Code.program(Code.call(1, 0, 3));
        Code.types(x, -1, -1, -1, -1, -1);
        int reach = 0x3f | method(0, 0);
        for (int type = 6; type > 1; type--) {
            Code.put(x, type % 6, 3, Code.make(1, type - 1));
            reach |= method(type % 6, 3);
        }
        for (int selector = 3; selector > 0; selector--) {
            Code.put(x, 1, selector, Code.call(1, 0, selector - 1));
            reach |= method(1, selector);
        }
        Code.put(x, 1, 0, Code.out(0));
        shaped(check, "ten bodies", x, 10, reach | method(1, 0));
        x.strip(5, 3);
        shaped(check, "two bodies and a class, behind which the chain breaks", x, 2, 1 | 1 << 5 | method(0, 0) | method(0, 3));
    }

    private static void dead(Check check) {
        CallShaper x = Code.program(Code.call(1, 0, 1));
        Code.types(x, 0);
        Code.put(x, 1, 1, Code.out(0));
        x.shape();
        check.due("one class has it, but is not made", x.site(0, 0, 0), DEAD);
        Code.put(x, 0, 0, Code.make(1, 1));
        x.shape();
        check.due("that class is made", x.site(0, 0, 0), IN_PLACE);
        x.strip(1, 1);
        x.shape();
        check.due("its method is gone", x.site(0, 0, 0), DEAD);
        Code.put(x, 0, 2, Code.call(1, 0, 3));
        x.shape();
        check.due("a body that is not reached", x.site(0, 2, 0), 0);
    }

    private static void direct(Check check) {
        CallShaper x = Code.program(Code.call(1, 0, 1), Code.make(1, 1), Code.make(1, 2), Code.make(1, 3), Code.make(1, 4));
        Code.types(x, -1, 1, 2, -1);
        Code.put(x, 1, 1, Code.times(4, Code.out(0)));
        x.shape();
        check.due("three have the same, two have none", x.site(0, 0, 0), DIRECT);
        x.strip(1, 1);
        Code.put(x, 4, 1, Code.times(4, Code.out(0)));
        x.shape();
        check.due("the last class alone has one", x.site(0, 0, 0), DIRECT);
        x.strip(4, 1);
        Code.put(x, 0, 1, Code.times(4, Code.out(0)));
        x.shape();
        check.due("class 0 alone has one", x.site(0, 0, 0), DIRECT);
    }

    private static void virtual(Check check) {
        CallShaper x = Code.program(Code.call(1, 0, 1), Code.make(1, 1));
        Code.types(x, 0);
        Code.put(x, 0, 1, Code.out(0));
        Code.put(x, 1, 1, Code.out(0));
        x.shape();
        check.due("two short methods, of the same operations", x.site(0, 0, 0), VIRTUAL);
        x.strip(1, 1);
        x.shape();
        check.due("one of them", x.site(0, 0, 0), IN_PLACE);
        CallShaper far = Code.program(Code.call(1, 0, 1), Code.make(1, 5));
        Code.types(far, 0, 0, 0, 0, -1);
        Code.put(far, 0, 1, Code.out(0));
        Code.put(far, 5, 1, Code.out(0));
        far.shape();
        check.due("the first and the last class have two", far.site(0, 0, 0), VIRTUAL);
    }

    private static int siteOfACallOf(int[]... operations) {
        CallShaper x = Code.program(Code.call(1, 0, 1));
        Code.put(x, 0, 1, operations);
        x.shape();
        return x.site(0, 0, 0);
    }

    private static void threeOperations(Check check) {
        for (int many = 1; many <= 10; many++) {
            check.due(many + " operations", siteOfACallOf(Code.times(many, Code.out(0))), many <= 3 ? IN_PLACE : DIRECT);
        }
        CallShaper x = Code.program(Code.make(2, 1), Code.call(1, 2, 1));
        Code.types(x, 0);
        Code.put(x, 0, 1, Code.times(3, Code.out(0)));
        x.shape();
        check.due("the target of a parent", x.site(0, 0, 1), IN_PLACE);
    }

    private static void neitherCallNorSkip(Check check) {
        int[][] barring = {Code.call(1, 0, 2), Code.skip(1, 1)};
        for (int[] operation : barring) {
            check.due("kind " + operation[0] + " alone", siteOfACallOf(operation), DIRECT);
            for (int at = 0; at < 3; at++) {
                int[][] body = Code.times(3, Code.out(0));
                body[at] = operation;
                check.due("kind " + operation[0] + " at " + at, siteOfACallOf(body), DIRECT);
            }
        }
        int[][] others = {Code.constant(1, 1), Code.move(1, 0), Code.add(1, 1, 1), Code.less(1, 1, 1), Code.make(1, 1),
            Code.get(1, 0, 0), Code.set(0, 1, 0), Code.out(1), Code.cast(0, 0), Code.answer(1)};
        for (int[] operation : others) {
            check.due("kind " + operation[0], siteOfACallOf(operation, Code.out(0), operation), IN_PLACE);
        }
        CallShaper itself = Code.program(Code.call(1, 0, 0));
        itself.shape();
        check.due("a method that calls itself", itself.site(0, 0, 0), DIRECT);
    }

    /** What is said of a NEW into a register with these operations behind it. */
    private static int siteOfNew(int register, int[]... operations) {
        CallShaper x = Code.program(Code.make(register, 1));
        Code.put(x, 0, 0, operations);
        x.shape();
        return x.site(0, 0, 0);
    }

    private static void local(Check check) {
        for (int register = 0; register < 6; register++) {
            check.due("into register " + register, siteOfNew(register), LOCAL);
        }
        check.due("all that does not let it out", siteOfNew(2, Code.constant(2, 1), Code.add(2, 2, 2), Code.less(2, 2, 2), Code.get(1, 2, 0),
            Code.get(2, 1, 0), Code.set(2, 1, 0), Code.out(2), Code.skip(2, 1), Code.cast(2, 1)), LOCAL);
        CallShaper x = Code.program(Code.make(1, 1), Code.make(2, 1), Code.make(1, 2), Code.answer(1));
        Code.put(x, 0, 1, Code.make(1, 1));
        x.shape();
        check.due("each for itself", Code.sites(x, 0, 0, 4), List.of(NOT_LOCAL, LOCAL, NOT_LOCAL, 0));
        check.due("a body that is not reached", x.site(0, 1, 0), 0);
    }

    private static void holders(Check check) {
        check.due("x of the NEW", siteOfNew(2, Code.answer(2)), NOT_LOCAL);
        check.due("x of a MOVE", siteOfNew(2, Code.move(3, 2), Code.answer(3)), NOT_LOCAL);
        check.due("over all six registers", siteOfNew(0, Code.move(1, 0), Code.move(2, 1), Code.move(3, 2), Code.move(4, 3),
            Code.move(5, 4), Code.answer(5)), NOT_LOCAL);
        check.due("a chain with a gap", siteOfNew(0, Code.move(1, 0), Code.move(3, 2), Code.move(4, 3), Code.answer(4)), LOCAL);
        check.due("y of a MOVE whose x is a holder", siteOfNew(2, Code.move(2, 3), Code.answer(3)), LOCAL);
        check.due("a register that is overwritten holds still", siteOfNew(2, Code.constant(2, 0), Code.answer(2)), NOT_LOCAL);
        check.due("what a GET reads is no holder", siteOfNew(2, Code.get(3, 2, 0), Code.answer(3)), LOCAL);
        check.due("what a CALL answers is no holder", siteOfNew(2, Code.call(3, 0, 0), Code.answer(3)), LOCAL);
        check.due("a ring of MOVEs", siteOfNew(2, Code.move(3, 2), Code.move(2, 3), Code.move(4, 1), Code.answer(4)), LOCAL);
    }

    private static void outBySet(Check check) {
        for (int register = 0; register < 6; register++) {
            int other = (register + 1) % 6;
            check.due("y, register " + register, siteOfNew(register, Code.set(other, register, 0)), NOT_LOCAL);
            check.due("x, register " + register, siteOfNew(register, Code.set(register, other, 0)), LOCAL);
        }
        check.due("y of a SET into itself", siteOfNew(2, Code.set(2, 2, 2)), NOT_LOCAL);
        check.due("a moved one", siteOfNew(2, Code.move(4, 2), Code.set(1, 4, 1)), NOT_LOCAL);
    }

    private static void outByCall(Check check) {
        for (int register = 0; register < 5; register++) {
            int other = (register + 1) % 5;
            check.due("y, register " + register, siteOfNew(register, Code.call(other, register, 0)), NOT_LOCAL);
            check.due("x, register " + register, siteOfNew(register, Code.call(register, other, 0)), LOCAL);
        }
        check.due("y of a dead CALL", siteOfNew(2, Code.call(1, 2, 3)), NOT_LOCAL);
        check.due("a moved one", siteOfNew(2, Code.move(4, 2), Code.call(1, 4, 0)), NOT_LOCAL);
        CallShaper x = Code.program(Code.make(2, 1), Code.call(1, 2, 1));
        Code.types(x, 0);
        Code.put(x, 0, 1, Code.out(1));
        x.shape();
        check.due("y of a CALL in place", Code.sites(x, 0, 0, 2), List.of(NOT_LOCAL, IN_PLACE));
    }

    private static void outByReturn(Check check) {
        for (int register = 0; register < 6; register++) {
            check.due("x, register " + register, siteOfNew(register, Code.answer(register)), NOT_LOCAL);
            check.due("another, register " + register, siteOfNew(register, Code.answer((register + 1) % 6)), LOCAL);
        }
    }

    private static void outByRegister5(Check check) {
        check.due("with a CALL", siteOfNew(5, Code.call(1, 0, 0)), NOT_LOCAL);
        check.due("with a dead CALL", siteOfNew(5, Code.call(1, 0, 3)), NOT_LOCAL);
        check.due("with a CALL into register 5", siteOfNew(5, Code.call(5, 0, 0)), NOT_LOCAL);
        check.due("moved there, with a CALL", siteOfNew(2, Code.move(5, 2), Code.call(1, 0, 0)), NOT_LOCAL);
        check.due("without a CALL", siteOfNew(5, Code.move(4, 5)), LOCAL);
        check.due("register 4 with a CALL", siteOfNew(4, Code.call(1, 0, 0)), LOCAL);
        CallShaper x = Code.program(Code.call(1, 0, 1));
        Code.put(x, 0, 1, Code.make(5, 1));
        x.shape();
        check.due("a CALL in another body", x.site(0, 1, 0), LOCAL);
    }

    private static int siteOfLastNew(int[]... before) {
        CallShaper x = Code.program(before);
        Code.put(x, 0, 0, Code.make(2, 1));
        x.shape();
        return x.site(0, 0, before.length);
    }

    private static void anyOrder(Check check) {
        check.due("a RETURN before the NEW", siteOfLastNew(Code.answer(2)), NOT_LOCAL);
        check.due("a SET before the NEW", siteOfLastNew(Code.set(0, 2, 0)), NOT_LOCAL);
        check.due("a CALL before the NEW", siteOfLastNew(Code.call(0, 2, 0)), NOT_LOCAL);
        check.due("a CALL before register 5 is a holder", siteOfLastNew(Code.call(0, 1, 0), Code.move(5, 2)), NOT_LOCAL);
        check.due("a MOVE before the NEW", siteOfLastNew(Code.move(3, 2), Code.answer(3)), NOT_LOCAL);
        check.due("MOVEs back to front", siteOfLastNew(Code.answer(0), Code.move(0, 1), Code.move(1, 3), Code.move(3, 4),
            Code.move(4, 5), Code.move(5, 2)), NOT_LOCAL);
        check.due("MOVEs back to front, one of which is not there", siteOfLastNew(Code.answer(0), Code.move(0, 1), Code.move(1, 3),
            Code.move(3, 4), Code.move(5, 2)), LOCAL);
    }

    private static void theSame(Check check) {
        CallShaper x = Code.program(Code.make(2, 1), Code.constant(5, 3), Code.call(1, 0, 1), Code.out(1), Code.call(1, 2, 2), Code.out(1),
            Code.out(2));
        Code.types(x, 0);
        Code.put(x, 0, 1, Code.out(1), Code.move(2, 1), Code.answer(2));
        Code.put(x, 0, 2, Code.answer(0));
        Code.put(x, 1, 2, Code.answer(1));
        x.shape();
        check.due("calls in place and virtual", Code.sites(x, 0, 0, 6), List.of(NOT_LOCAL, 0, IN_PLACE, 0, VIRTUAL, 0));
        check.due("as it is", Code.ran(x, false, 2), "0 [3, 3, 3, 1001]");
        check.due("shaped", Code.ran(x, true, 2), "0 [3, 3, 3, 1001]");
        CallShaper deep = Code.program(Code.out(1), Code.call(1, 0, 1), Code.call(1, 0, 0));
        Code.put(deep, 0, 1, Code.out(0));
        deep.shape();
        String before = Code.ran(deep, false, 1);
        check.due("a call in place needs one of the 12 frames", Code.ran(deep, true, 1), before);
        CallShaper late = Code.nearTheEnd(6, Code.out(1));
        late.shape();
        check.due("FUEL", Code.ran(late, true, 1), "5 []");
        CallShaper without = Code.program(Code.make(1, 1), Code.call(2, 0, 1));
        Code.types(without, -1);
        Code.put(without, 1, 1, Code.out(0));
        without.shape();
        check.due("a call in place ..", without.site(0, 0, 1), IN_PLACE);
        check.due(".. of an object without the target", Code.ran(without, true, 2), "6 []");
    }

    private static void noRoom(Check check) {
        CallShaper x = Code.program(Code.times(9, Code.call(1, 0, 1)));
        Code.put(x, 0, 0, Code.out(1));
        Code.put(x, 0, 1, Code.times(10, Code.make(1, 2)));
        x.shape();
        check.due("90 objects and room for the run's alone", Code.ran(x, true, 1), "0 [0]");
        check.due("not shaped", Code.ran(x, false, 60), "3 []");
        CallShaper mixed = Code.program(Code.make(1, 1), Code.make(2, 1), Code.set(0, 2, 0), Code.make(1, 1), Code.make(3, 1),
            Code.set(0, 3, 1), Code.make(1, 1), Code.out(1));
        mixed.shape();
        check.due("two of five take room", Code.ran(mixed, true, 3), "0 [1001]");
        check.due("two of five, and room for one", Code.ran(mixed, true, 2), "3 []");
        check.due("two of five, and room for one: count(4)", mixed.count(4), 5);
        check.due("as it is, all take room", Code.ran(mixed, false, 6) + Code.ran(mixed, false, 5), "0 [1001]3 []");
        CallShaper full = Code.program(Code.make(1, 5), Code.get(2, 1, 0), Code.out(2), Code.set(1, 0, 0), Code.get(2, 1, 0), Code.out(2));
        full.shape();
        check.due("an object that takes no room has fields", Code.ran(full, true, 1), "0 [0, 1000]");
        CallShaper most = Code.nearTheEnd(6, Code.out(1));
        most.strip(0, 3);
        Code.put(most, 0, 3, Code.times(9, Code.make(1, 2)));
        most.shape();
        check.due("as many as the fuel lets be made", Code.ran(most, true, 1), "5 []");
    }

    private static void notCounted(Check check) {
        CallShaper x = Code.program(Code.make(1, 1), Code.make(2, 1), Code.make(3, 1), Code.answer(2));
        x.shape();
        x.run(true, 2);
        check.due("one of three and the run's", x.count(1), 2);
        x.run(false, 4);
        check.due("as it is", x.count(1), 4);
    }

    private static void latestShaping(Check check) {
        CallShaper x = Code.program(Code.make(1, 1), Code.call(2, 0, 1));
        Code.put(x, 0, 1, Code.out(0));
        check.due("none yet: the NEW takes room", x.run(true, 1), 3);
        x.run(true, 2);
        check.due("none yet: counts", Code.counts(x), List.of(1, 2, 1, 2, 3, 2));
        x.shape();
        x.run(true, 1);
        check.due("in place", Code.counts(x), List.of(1, 1, 0, 1, 3, 2));
        Code.put(x, 0, 1, Code.times(3, Code.out(0)));
        x.run(true, 1);
        check.due("in place, as the latest shaping said", Code.counts(x), List.of(4, 1, 0, 1, 6, 2));
        x.shape();
        x.run(true, 1);
        check.due("direct, as the latest one says", Code.counts(x), List.of(4, 1, 0, 2, 6, 2));
        x.strip(0, 1);
        x.shape();
        Code.put(x, 0, 1, Code.out(0));
        x.run(true, 1);
        check.due("dead, as the latest one says", Code.counts(x), List.of(1, 1, 1, 2, 3, 2));
    }

    private static void changedSince(Check check) {
        CallShaper x = Code.program(Code.make(1, 1), Code.call(2, 0, 1));
        Code.put(x, 0, 1, Code.make(1, 1), Code.call(2, 0, 2));
        Code.put(x, 0, 2, Code.out(0));
        x.shape();
        x.run(true, 9);
        check.due("not changed", Code.counts(x), List.of(1, 1, 0, 2, 5, 3));
        Code.put(x, 0, 1, Code.out(0));
        x.run(true, 9);
        check.due("selector 1 was changed: its CALL is virtual and its NEW not local", Code.counts(x), List.of(2, 2, 1, 3, 6, 3));
        check.due("the room that its NEW takes", Code.ran(x, true, 1), "3 []");
        x.strip(0, 0);
        Code.put(x, 0, 0, Code.make(1, 1), Code.call(2, 0, 1));
        x.run(true, 9);
        check.due("selector 0 was taken away and put again", Code.counts(x), List.of(2, 3, 2, 3, 6, 3));
        x.shape();
        x.run(true, 9);
        check.due("shaped again", Code.counts(x), List.of(2, 1, 0, 2, 6, 3));
        check.due("nothing else is put out for it", Code.putOut(x), Collections.nCopies(2, 1000));
    }
}
