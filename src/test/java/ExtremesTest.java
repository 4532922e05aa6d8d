import com.sun.management.ThreadMXBean;
import java.lang.management.ManagementFactory;

/** Programs as great, and as deep, as they can be. */
public final class ExtremesTest {
    private static final Check CHECK = new Check("ExtremesTest");

    public static void main(String[] args) {
        mostFaults();
        deepExpression();
        deepStatements();
        deepNames();
        manyFrames();
        manyArrays();
        deepCalls();
        manyObjects();
        manyCalls();
        CHECK.end();
    }

    private static void mostFaults() {
        Build b = new Build();
        for (int k = 0; k < 9; k++) {
            b.x.procedure(0, k);
        }
        int n = b.use(15);
        for (int k = 0; k < 108; k++) {
            n = b.at(15, n);
        }
        b.x.body(0, b.set(15, n));
        CHECK.due("many(3)", b.x.many(3), 119);
        CHECK.due("the first one", b.x.fault(0, 2), 109);
        CHECK.due("the last NODE", b.x.fault(109, 2), 0);
        CHECK.due("the last one", b.x.fault(118, 1), 9);
        CHECK.bounds("fault(119, 0)", () -> b.x.fault(119, 0));
        b.x.digest();
    }

    private static void deepExpression() {
        Build b = new Build();
        b.x.variable(0, 0, 1, 1);
        int n = b.number(0);
        for (int k = 0; k < 108; k++) {
            n = b.at(0, n);
        }
        b.x.body(0, b.print(n));
        CHECK.due("run()", b.x.run(), 0);
        CHECK.due("STEPS", b.x.ofRun(3), 110);
        CHECK.due("how many begin with the first", b.x.code(0, 0, 3), 110);
        Build c = new Build();
        n = c.number(1);
        for (int k = 0; k < 54; k++) {
            n = c.add(n, c.number(1));
        }
        c.x.body(0, c.print(n));
        CHECK.due("FOLDED", c.x.many(5), 54);
        CHECK.due("length", c.x.many(10), 4);
        CHECK.due("run()", c.x.run(), 0);
        CHECK.due("the sum", c.printed(), "55");
    }

    private static void deepStatements() {
        Build b = new Build();
        b.x.variable(0, 0, 0, 0);
        int n = b.leave(9);
        for (int k = 0; k < 54; k++) {
            n = b.loop(k == 53 ? 9 : 1, b.number(1), n);
        }
        b.x.body(0, n);
        CHECK.due("length", b.x.many(10), 1 + 54 * 5 + 2);
        CHECK.due("run()", b.x.run(), 0);
        CHECK.due("STEPS", b.x.ofRun(3), 109);
        b.x.limits(3000, 40);
        b.x.body(0, b.leave(0));
        CHECK.due("FAULT", b.x.fault(0, 0), 6);
    }

    // Each PROCEDURE hands the EXPRESSION on to the next one, BY NAME: it goes all the way back.
    private static void deepNames() {
        Build b = new Build();
        b.x.variable(0, 0, 0, 0);
        b.x.procedure(0, 1);
        b.x.parameter(1, 2, 2);
        b.x.parameter(1, 3, 0);
        b.body(1, b.when(b.use(3),
            b.give(b.call(1, b.add(b.use(2), b.number(1)), b.sub(b.use(3), b.number(1)))),
            b.give(b.add(b.use(2), b.use(2)))));
        b.body(0, b.print(b.call(1, b.use(0), b.number(38))));
        b.x.limits(3000, 40);
        CHECK.due("run()", b.x.run(), 0);
        CHECK.due("printed", b.printed(), "76");
        CHECK.due("DEPTH", b.x.ofRun(8), 40);
        CHECK.due("DEPTH, one less", b.x.wouldRun(3000, 39, 0), 7);
    }

    private static void manyFrames() {
        Build b = new Build();
        for (int k = 0; k < 6; k++) {
            b.x.variable(0, k, 0, 0);
        }
        b.x.procedure(0, 6);
        for (int k = 0; k < 6; k++) {
            b.x.variable(1, k, 1, 8);
        }
        b.x.body(1, b.store(5, b.number(7), b.add(b.at(5, b.number(7)), b.number(1))));
        b.x.body(0, b.loop(0, b.number(1), b.perform(b.call(6))));
        b.x.limits(3000, 2);
        b.x.passes(0);
        for (int k = 0; k < 100; k++) {
            CHECK.due("run()", b.x.run(), 6);
        }
        // The LOOP; then nine STEPS each turn.
        CHECK.due("FRAMES", b.x.ofRun(5), 1 + 333);
        CHECK.due("CELLS", b.x.ofRun(6), 6 + 6 * 333);
        b.x.body(1, b.give(b.at(5, b.number(7))));
        b.x.body(0, b.loop(0, b.sub(b.number(1), b.call(6)), b.perform(b.call(6))));
        CHECK.due("each FRAME has fresh arrays", b.x.run(), 6);
    }

    private static void manyArrays() {
        Build b = new Build();
        b.x.variable(0, 0, 1, 8);
        b.x.procedure(0, 1);
        for (int k = 2; k < 6; k++) {
            b.x.parameter(1, k, 3);
        }
        for (int k = 6; k < 12; k++) {
            b.x.variable(1, k, 1, 8);
        }
        b.body(1, b.store(2, b.number(7), b.number(3)), b.store(11, b.number(7), b.number(4)),
            b.print(b.add(b.at(5, b.number(7)), b.at(2, b.number(7)))));
        b.body(0, b.store(0, b.number(7), b.number(9)), b.loop(0, b.number(1),
            b.perform(b.call(1, b.array(0), b.array(0), b.array(0), b.array(0)))));
        b.x.limits(3000, 40);
        CHECK.due("run()", b.x.run(), 6);
        CHECK.due("the last one", b.x.printed(49, 0), 12);
        CHECK.due("the mean", b.x.meanPrinted(), 12.0);
    }

    private static void deepCalls() {
        Build b = new Build();
        b.x.procedure(0, 0);
        for (int k = 1; k < 9; k++) {
            b.x.procedure(k, k);
        }
        for (int p = 1; p < 9; p++) {
            b.x.variable(p, 15, 2, 0);
            b.body(p, b.keep(15, b.taken(p)), b.perform(b.call(15)));
        }
        b.body(9, b.perform(b.call(0)));
        b.body(0, b.loop(5, b.number(1), b.perform(b.call(0))));
        b.x.limits(3000, 40);
        CHECK.due("run()", b.x.run(), 7);
        CHECK.due("HOPS", b.x.ofName(9, 0, 1), 9);
        CHECK.due("its PROCEDURE", b.x.ofRun(2), 3);
        b.x.body(9, b.leave(5));
        CHECK.due("the BREAK ends the LOOP of MAIN", b.x.run(), 0);
        CHECK.due("DEPTH", b.x.ofRun(8), 10);
        CHECK.due("HOPS of LEAVE", b.x.code(9, 0, 1), 9);
    }

    // The dearest calls, as often as they can be made on one object, make nothing new: what was
    // made for the first of them serves all the others.
    private static void manyObjects() {
        long before = made();
        Build b = new Build();
        b.x.procedure(0, 6);
        b.x.procedure(0, 7);
        for (int k = 0; k < 6; k++) {
            b.x.variable(1, k, 1, 8);
            b.x.variable(2, k, 1, 8);
        }
        b.x.body(2, b.give(b.number(1)));
        b.x.body(1, b.perform(b.call(7)));
        b.x.body(0, b.loop(0, b.number(1), b.print(b.call(6))));
        b.x.limits(3000, 40);
        CHECK.due("run()", b.x.run(), 6);
        CHECK.due("FRAMES", b.x.ofRun(5) > 700 ? 1 : 0, 1);
        long want = b.x.digest();
        long atFirst = made() - before;
        if (atFirst > 3_000_000) {
            CHECK.fail("the dearest run made " + atFirst + " bytes");
        }
        before = made();
        for (int k = 0; k < 160; k++) {
            CHECK.due("digest()", b.x.digest(), want);
            CHECK.due("run()", b.x.run(), 6);
            want = b.x.digest();
        }
        long made = made() - before;
        if (made > 100_000) {
            CHECK.fail("as many calls as there can be made " + made + " bytes");
        }
    }

    private static void manyCalls() {
        CHECK.says("An object is used for at most 512 calls after it has been made");
        StaticLink x = new StaticLink();
        int calls = 0;
        for (int p = 0; p < 9; p++) {
            CHECK.due("procedure", x.procedure(p, p), p + 1);
            calls++;
        }
        for (int k = 0; k < 110; k += 2) {
            CHECK.due("node", x.node(0, k, 0, 0), k);
            CHECK.due("node", x.node(19, 0, k, 0), k + 1);
            calls += 2;
        }
        for (int p = 0; p < 10; p++) {
            CHECK.due("body", x.body(p, 2 * p + 1), -1);
            calls++;
        }
        for (int runs = 1; calls < 511; runs++) {
            CHECK.due("run", x.run(), 0);
            CHECK.due("runs", x.ofRun(10), runs);
            calls += 2;
        }
        CHECK.due("the 512th call", x.body(9, 109), 19);
    }

    /** How many bytes this thread has made, ever. */
    private static long made() {
        ThreadMXBean threads = (ThreadMXBean) ManagementFactory.getThreadMXBean();
        return threads.getCurrentThreadAllocatedBytes();
    }
}
