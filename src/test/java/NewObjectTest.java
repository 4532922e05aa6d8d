/** Promise 1. */
public final class NewObjectTest {
    public static void main(String[] args) {
        Check check = new Check("NewObjectTest");
        StaticLink x = new StaticLink();
        check.due("many(0)", x.many(0), 1);
        check.due("ofProcedure(0, 6)", x.ofProcedure(0, 6), -1);
        check.end();
    }
}
