import java.util.NoSuchElementException;

/** Promise 1: class 0, no operations; nothing was shaped or run. */
public final class NewObjectTest {
    public static void main(String[] args) {
        Check check = new Check();
        nothingWasShapedOrRun(check);
        thereIsClass0Alone(check);
        objectsShareNothing(check);
        check.end();
    }

    private static void nothingWasShapedOrRun(Check check) {
        CallShaper x = new CallShaper();
        check.due("new: reach()", x.reach(), 0);
        for (int what = 0; what < 6; what++) {
            check.due("new: count(" + what + ")", x.count(what), 0);
        }
        check.refused("new: out(0)", NoSuchElementException.class, () -> x.out(0));
    }

    private static void thereIsClass0Alone(Check check) {
        CallShaper x = new CallShaper();
        for (int selector = 0; selector < 4; selector++) {
            int s = selector;
            check.due("new: strip(0, " + s + ")", x.strip(0, s), 0);
            check.refused("new: site(0, " + s + ", 0)", NoSuchElementException.class, () -> x.site(0, s, 0));
        }
        check.refused("new: strip(1, 0)", IllegalArgumentException.class, () -> x.strip(1, 0));
        check.due("new: type(0)", x.type(0), 1);
        check.due("new: run(false, 1) finds no target", x.run(false, 1), 6);
        check.due("new: class 0 has no parent, shape()", x.shape(), 0);
    }

    private static void objectsShareNothing(Check check) {
        CallShaper one = Code.program(Code.constant(1, 5), Code.out(1));
        one.type(0);
        one.shape();
        one.run(true, 1);
        CallShaper other = new CallShaper();
        check.due("another: count(0)", other.count(0), 0);
        check.due("another: reach()", other.reach(), 0);
        check.due("another: type(-1)", other.type(-1), 1);
        check.due("another: strip(0, 0)", other.strip(0, 0), 0);
        check.due("the first: out(0)", one.out(0), 5);
    }
}
