import java.util.NoSuchElementException;

/** Promise 10: out. */
public final class OutTest {
    public static void main(String[] args) {
        Check check = new Check();
        valuesInTheirOrder(check);
        theLatestRunAlone(check);
        asManyAsForty(check);
        check.end();
    }

    private static void missing(Check check, String what, CallShaper x, int... wrong) {
        for (int k : wrong) {
            check.refused(what + ": out(" + k + ")", NoSuchElementException.class, () -> x.out(k));
        }
    }

    private static void valuesInTheirOrder(Check check) {
        CallShaper x = Code.program(Code.constant(1, -1), Code.out(1), Code.make(2, 5), Code.out(2), Code.out(0), Code.out(3),
            Code.cast(2, 0), Code.out(1));
        missing(check, "before a run", x, 0, -1);
        check.due("run", x.run(false, 2), 2);
        int[] due = {-1, 1005, 1000, 0};
        for (int k = 0; k < due.length; k++) {
            check.due("out(" + k + ")", x.out(k), due[k]);
        }
        missing(check, "four values", x, 4, 5, -1, Integer.MAX_VALUE, Integer.MIN_VALUE);
    }

    private static void theLatestRunAlone(Check check) {
        CallShaper x = Code.program(Code.out(0), Code.out(1), Code.make(1, 1), Code.out(1));
        x.run(false, 2);
        check.due("three values: out(2)", x.out(2), 1001);
        x.run(false, 1);
        check.due("two values: out(1)", x.out(1), 0);
        missing(check, "two values", x, 2);
        x.strip(0, 0);
        x.shape();
        check.due("a change is no run: out(1)", x.out(1), 0);
        x.run(false, 0);
        missing(check, "none", x, 0);
    }

    private static void asManyAsForty(Check check) {
        CallShaper x = Code.program(Code.times(10, Code.call(1, 0, 1)));
        Code.put(x, 0, 1, Code.times(9, Code.out(0)));
        Code.put(x, 0, 1, Code.out(1));
        check.due("more than forty: run", x.run(false, 1), 7);
        check.due("more than forty: out(38)", x.out(38), 1000);
        check.due("more than forty: out(39)", x.out(39), 0);
        missing(check, "more than forty", x, 40, 41);
    }
}
