import java.util.NoSuchElementException;

/** Promise 4: strip. */
public final class StripTest {
    public static void main(String[] args) {
        Check check = new Check();
        operationsGo(check);
        theParentsMethodComesBack(check);
        whatWasTakenAwayIsNotShaped(check);
        wrongBodies(check);
        check.end();
    }

    private static void whatWasTakenAwayIsNotShaped(Check check) {
        CallShaper x = Code.program(Code.out(0), Code.call(1, 0, 1), Code.make(2, 4), Code.move(3, 2), Code.answer(2));
        Code.put(x, 0, 1, Code.out(0), Code.skip(1, 1));
        x.strip(0, 0);
        x.strip(0, 1);
        Code.put(x, 0, 0, Code.make(2, 2), Code.call(1, 0, 1));
        Code.put(x, 0, 1, Code.out(0));
        check.due("shape() behind strip", x.shape(), 2);
        check.due("reach() behind strip", x.reach(), 1 | 1 << 2 | 1 << 8 | 1 << 9);
        check.due("a SKIP was taken away: site(0, 0, 1)", x.site(0, 0, 1), 3);
        x.strip(0, 0);
        Code.put(x, 0, 0, Code.call(1, 0, 1), Code.answer(2), Code.move(2, 3), Code.set(0, 3, 0));
        x.strip(0, 0);
        Code.put(x, 0, 0, Code.make(2, 2));
        x.shape();
        check.due("a RETURN was taken away: site(0, 0, 0)", x.site(0, 0, 0), 5);
        check.due("a CALL was taken away: reach()", x.reach(), 1 | 1 << 2 | 1 << 8);
        Code.put(x, 0, 0, Code.answer(3));
        x.strip(0, 0);
        Code.put(x, 0, 0, Code.out(1), Code.out(1), Code.move(3, 2));
        x.strip(0, 0);
        Code.put(x, 0, 0, Code.make(2, 2), Code.answer(3));
        x.shape();
        check.due("a MOVE was taken away: site(0, 0, 0)", x.site(0, 0, 0), 5);
    }

    private static void operationsGo(Check check) {
        CallShaper x = Code.program(Code.times(10, Code.out(1)));
        Code.put(x, 0, 1, Code.out(1), Code.out(2));
        check.due("strip(0, 0)", x.strip(0, 0), 10);
        check.due("strip(0, 0) again", x.strip(0, 0), 0);
        check.refused("site(0, 0, 0) behind strip", NoSuchElementException.class, () -> x.site(0, 0, 0));
        check.due("run without a body", x.run(false, 1), 6);
        check.due("operation behind strip is the first", x.operation(0, 0, 0, 1, 3, 0), 1);
        check.due("run does the new one alone", x.run(false, 1), 0);
        check.due("count(4)", x.count(4), 1);
        check.due("the other body stays: strip(0, 1)", x.strip(0, 1), 2);
    }

    private static void theParentsMethodComesBack(Check check) {
        CallShaper x = Code.program(Code.make(1, 1), Code.call(2, 1, 2), Code.out(2));
        x.type(0);
        Code.put(x, 0, 2, Code.constant(3, 40), Code.answer(3));
        Code.put(x, 1, 2, Code.constant(3, 41), Code.answer(3));
        x.run(false, 2);
        check.due("the class's own method: out(0)", x.out(0), 41);
        check.due("strip(1, 2)", x.strip(1, 2), 2);
        x.run(false, 2);
        check.due("the parent's method: out(0)", x.out(0), 40);
    }

    private static void wrongBodies(Check check) {
        CallShaper x = Code.program(Code.out(1));
        int[][] wrong = {{1, 0}, {-1, 0}, {6, 0}, {0, -1}, {0, 4}, {Integer.MAX_VALUE, 0}, {0, Integer.MIN_VALUE}};
        for (int[] w : wrong) {
            check.refused("strip(" + w[0] + ", " + w[1] + ")", IllegalArgumentException.class, () -> x.strip(w[0], w[1]));
        }
        check.due("strip(0, 0) after those refused", x.strip(0, 0), 1);
    }
}
