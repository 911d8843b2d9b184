import java.util.NoSuchElementException;

/** Promise 7: site. */
public final class SiteTest {
    private static final int VIRTUAL = 1;
    private static final int DIRECT = 2;
    private static final int IN_PLACE = 3;
    private static final int DEAD = 4;
    private static final int LOCAL = 5;
    private static final int NOT_LOCAL = 6;

    public static void main(String[] args) {
        Check check = new Check();
        callsByTheirTargets(check);
        callsInPlace(check);
        localObjects(check);
        otherOperationsAndBodies(check);
        changesSince(check);
        noSuchOperation(check);
        check.end();
    }

    private static void callsByTheirTargets(Check check) {
        CallShaper x = Code.program(Code.call(1, 0, 1), Code.call(1, 0, 2), Code.call(1, 0, 3), Code.make(1, 1), Code.make(2, 2));
        x.type(-1);
        x.type(1);
        x.type(1);
        for (int selector = 2; selector < 4; selector++) {
            Code.put(x, 1, selector, Code.times(4, Code.out(1)));
        }
        Code.put(x, 2, 3, Code.out(1));
        Code.put(x, 3, 2, Code.out(1));
        x.shape();
        check.due("no class has one", x.site(0, 0, 0), DEAD);
        check.due("two classes have the same, class 0 none, and class 3 is not made", x.site(0, 0, 1), DIRECT);
        check.due("two classes have two", x.site(0, 0, 2), VIRTUAL);
        Code.put(x, 0, 0, Code.make(3, 3));
        x.shape();
        check.due("class 3, which is made now, has another", x.site(0, 0, 1), VIRTUAL);
    }

    private static int siteOfACallOf(int[]... operations) {
        CallShaper x = Code.program(Code.call(1, 0, 1));
        Code.put(x, 0, 1, operations);
        x.shape();
        return x.site(0, 0, 0);
    }

    private static void callsInPlace(Check check) {
        check.due("one operation", siteOfACallOf(Code.out(1)), IN_PLACE);
        check.due("three operations", siteOfACallOf(Code.times(3, Code.out(1))), IN_PLACE);
        check.due("four operations", siteOfACallOf(Code.times(4, Code.out(1))), DIRECT);
        check.due("with a CALL", siteOfACallOf(Code.out(1), Code.out(1), Code.call(1, 0, 0)), DIRECT);
        check.due("with a SKIP", siteOfACallOf(Code.skip(1, 1)), DIRECT);
        check.due("with NEW, CAST, RETURN", siteOfACallOf(Code.make(1, 1), Code.cast(1, 1), Code.answer(1)), IN_PLACE);
        check.due("with GET, SET, ADD", siteOfACallOf(Code.get(2, 0, 1), Code.set(0, 2, 2), Code.add(1, 1, 1)), IN_PLACE);
        check.due("with CONST, MOVE, LESS", siteOfACallOf(Code.constant(1, 1), Code.move(1, 2), Code.less(1, 1, 2)), IN_PLACE);
    }

    /** What is said of a NEW into register 2 with these operations behind it. */
    private static int siteOfNew(int[]... operations) {
        CallShaper x = Code.program(Code.make(2, 1));
        Code.put(x, 0, 0, operations);
        x.shape();
        return x.site(0, 0, 0);
    }

    private static void localObjects(Check check) {
        check.due("NEW alone", siteOfNew(), LOCAL);
        check.due("x of a SET", siteOfNew(Code.set(2, 0, 0)), LOCAL);
        check.due("y of a SET", siteOfNew(Code.set(0, 2, 0)), NOT_LOCAL);
        check.due("x and y of a SET", siteOfNew(Code.set(2, 2, 0)), NOT_LOCAL);
        check.due("y of a CALL", siteOfNew(Code.call(1, 2, 0)), NOT_LOCAL);
        check.due("x of a CALL", siteOfNew(Code.call(2, 1, 0)), LOCAL);
        check.due("x of a RETURN", siteOfNew(Code.answer(2)), NOT_LOCAL);
        check.due("another register's RETURN", siteOfNew(Code.answer(0)), LOCAL);
        check.due("GET, CAST, OUT, SKIP, ADD", siteOfNew(Code.get(1, 2, 0), Code.cast(2, 1), Code.out(2), Code.skip(2, 1),
            Code.add(2, 2, 2)), LOCAL);
        check.due("register 5 with a CALL", siteOfNew(Code.move(5, 2), Code.call(1, 0, 3)), NOT_LOCAL);
        check.due("register 5 with a CALL before", siteOfNew(Code.call(1, 0, 3), Code.move(5, 2)), NOT_LOCAL);
        check.due("register 5 without a CALL", siteOfNew(Code.move(5, 2)), LOCAL);
        check.due("a MOVE out of another", siteOfNew(Code.move(3, 1), Code.answer(3)), LOCAL);
        check.due("a MOVE into it", siteOfNew(Code.move(2, 3), Code.answer(3)), LOCAL);
        check.due("moved on, then back to front", siteOfNew(Code.answer(1), Code.move(1, 5), Code.move(5, 4), Code.move(4, 3),
            Code.move(3, 0), Code.move(0, 2)), NOT_LOCAL);
        check.due("moved on, but not so far", siteOfNew(Code.answer(1), Code.move(5, 4), Code.move(4, 3), Code.move(3, 0),
            Code.move(0, 2)), LOCAL);
        check.due("overwritten before it is answered", siteOfNew(Code.constant(2, 1), Code.answer(2)), NOT_LOCAL);
        CallShaper x = Code.program(Code.make(5, 1), Code.make(4, 1), Code.call(1, 0, 3), Code.answer(1));
        x.shape();
        check.due("NEW into register 5 with a CALL", x.site(0, 0, 0), NOT_LOCAL);
        check.due("each NEW for itself", x.site(0, 0, 1), LOCAL);
        CallShaper before = Code.program(Code.move(3, 2), Code.make(2, 1), Code.answer(3));
        before.shape();
        check.due("a MOVE before the NEW", before.site(0, 0, 1), NOT_LOCAL);
        before = Code.program(Code.answer(2), Code.make(2, 1));
        before.shape();
        check.due("a RETURN before the NEW", before.site(0, 0, 1), NOT_LOCAL);
    }

    private static void otherOperationsAndBodies(Check check) {
        CallShaper x = Code.program(Code.constant(1, 1), Code.move(1, 1), Code.add(1, 1, 1), Code.less(1, 1, 1), Code.get(1, 0, 0),
            Code.set(0, 1, 0), Code.out(1), Code.skip(1, 1), Code.cast(0, 0), Code.answer(1));
        Code.put(x, 0, 1, Code.make(1, 1), Code.call(1, 1, 0));
        check.due("before a shaping", x.site(0, 1, 0), 0);
        x.shape();
        for (int k = 0; k < 10; k++) {
            check.due("other operations: site(0, 0, " + k + ")", x.site(0, 0, k), 0);
        }
        check.due("a NEW in a body not reached", x.site(0, 1, 0), 0);
        check.due("a CALL in a body not reached", x.site(0, 1, 1), 0);
    }

    private static void changesSince(Check check) {
        CallShaper x = Code.program(Code.make(1, 1), Code.call(1, 0, 1));
        Code.put(x, 0, 1, Code.make(2, 1));
        x.shape();
        check.due("shaped: NEW", x.site(0, 0, 0), LOCAL);
        check.due("shaped: CALL", x.site(0, 0, 1), IN_PLACE);
        check.refused("a refused operation", IllegalArgumentException.class, () -> x.operation(0, 0, 12, 0, 0, 0));
        check.due("what was refused changed nothing", x.site(0, 0, 1), IN_PLACE);
        Code.put(x, 0, 1, Code.out(0), Code.out(0), Code.out(0));
        check.due("a change elsewhere", x.site(0, 0, 1), IN_PLACE);
        check.due("the changed body", x.site(0, 1, 0), 0);
        x.strip(0, 0);
        Code.put(x, 0, 0, Code.make(1, 1), Code.call(1, 0, 1));
        check.due("taken away and put again: NEW", x.site(0, 0, 0), 0);
        check.due("taken away and put again: CALL", x.site(0, 0, 1), 0);
        x.shape();
        check.due("shaped again: NEW", x.site(0, 0, 0), LOCAL);
        check.due("shaped again: CALL", x.site(0, 0, 1), DIRECT);
        x.strip(0, 0);
        x.shape();
        check.due("not reached any more", x.site(0, 1, 0), 0);
    }

    private static void noSuchOperation(Check check) {
        CallShaper x = Code.program(Code.out(1), Code.out(1));
        x.shape();
        int[][] wrong = {{0, 0, 2}, {0, 0, -1}, {0, 1, 0}, {1, 0, 0}, {-1, 0, 0}, {0, 4, 0}, {0, -1, 0}, {0, -1, 4}, {6, 0, 0},
            {-1, 4, 0}, {0, 0, Integer.MAX_VALUE}, {0, 0, Integer.MIN_VALUE}, {Integer.MAX_VALUE, 0, 0}, {0, Integer.MIN_VALUE, 0}};
        for (int[] w : wrong) {
            check.refused("site(" + w[0] + ", " + w[1] + ", " + w[2] + ")", NoSuchElementException.class,
                () -> x.site(w[0], w[1], w[2]));
        }
    }
}
