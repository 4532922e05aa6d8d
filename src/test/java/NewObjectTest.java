/** Promise 1: a new object. */
public final class NewObjectTest {
    public static void main(String[] args) {
        Check check = new Check("NewObjectTest");
        StaticLink x = new StaticLink();
        int[] many = {1, 0, 0, 1, 0, 0, 0, 7, 1000, 20, 0};
        for (int what = 0; what <= 10; what++) {
            check.due("many(" + what + ")", x.many(what), many[what]);
        }
        int[] main = {-1, -1, 0, 0, 0, 0, -1, 0};
        for (int what = 0; what <= 7; what++) {
            check.due("ofProcedure(0, " + what + ")", x.ofProcedure(0, what), main[what]);
        }
        for (int what = 0; what <= 10; what++) {
            check.due("ofRun(" + what + ")", x.ofRun(what), 0);
        }
        check.due("fault(0, 0)", x.fault(0, 0), 10);
        check.due("fault(0, 1)", x.fault(0, 1), 0);
        check.due("fault(0, 2)", x.fault(0, 2), -1);
        check.due("meanPrinted()", x.meanPrinted(), 0.0);
        check.state("run()", () -> x.run());
        check.bounds("ofNode(0, 0)", () -> x.ofNode(0, 0));
        check.bounds("printed(0, 0)", () -> x.printed(0, 0));
        check.bounds("code(0, 0, 0)", () -> x.code(0, 0, 0));
        check.bounds("ofProcedure(1, 0)", () -> x.ofProcedure(1, 0));
        twoObjectsAreApart(check);
        check.end();
    }

    private static void twoObjectsAreApart(Check check) {
        StaticLink x = new StaticLink();
        StaticLink y = new StaticLink();
        x.procedure(0, 3);
        x.passes(0);
        check.due("many(0) of another one", y.many(0), 1);
        check.due("many(7) of another one", y.many(7), 7);
    }
}
