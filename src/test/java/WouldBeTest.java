/** Promises 18 to 22: many, wouldRun, with, hiddenBy, digest. */
public final class WouldBeTest {
    private static final Check CHECK = new Check("WouldBeTest");

    public static void main(String[] args) {
        many();
        wouldRun();
        with();
        hiddenBy();
        digests();
        CHECK.end();
    }

    /** A PROCEDURE that CALLS itself by a TAIL, and one whose VARIABLE ESCAPES. */
    private static Build program() {
        Build b = new Build();
        b.x.variable(0, 0, 2, 0);
        b.x.procedure(0, 1);
        b.x.parameter(1, 2, 0);
        b.x.procedure(0, 3);
        b.x.parameter(2, 4, 0);
        b.x.variable(2, 5, 0, 0);
        b.x.procedure(2, 6);
        b.body(1, b.when(b.use(2), b.give(b.call(1, b.sub(b.use(2), b.number(1)))), -1));
        b.body(3, b.count(5), b.give(b.use(5)));
        b.body(2, b.keep(0, b.taken(6)), b.give(b.add(b.call(0), b.call(0))));
        b.body(0, b.perform(b.call(1, b.number(4))), b.print(b.call(3, b.number(0))),
            b.print(b.mul(b.number(2), b.number(3))));
        return b;
    }

    private static void many() {
        Build b = program();
        b.number(1);
        b.add(b.number(1), b.number(2));
        b.give(b.call(1, b.number(0)));
        int[] want = {4, b.x.many(1), 8, 0, 1, 1, 1, 7, 1000, 20, 0};
        int length = 0;
        for (int p = 0; p < 4; p++) {
            length += b.x.ofProcedure(p, 7);
        }
        want[10] = length;
        for (int what = 0; what <= 10; what++) {
            CHECK.due("many(" + what + ")", b.x.many(what), want[what]);
        }
        CHECK.argument("many(11)", () -> b.x.many(11));
        CHECK.argument("many(-1)", () -> b.x.many(-1));
        b.x.passes(4);
        b.x.limits(77, 6);
        CHECK.due("PASSES", b.x.many(7), 4);
        CHECK.due("MOST", b.x.many(8), 77);
        CHECK.due("DEEP", b.x.many(9), 6);
        CHECK.due("TAILS, whatever PASSES", b.x.many(4), 1);
    }

    private static void wouldRun() {
        Build b = program();
        int[] want = {0, -1, -1, 69, 2, 9, 1, 3, 6, 0};
        for (int what = 0; what <= 9; what++) {
            CHECK.due("wouldRun(3000, 40, " + what + ")", b.x.wouldRun(3000, 40, what),
                want[what]);
        }
        CHECK.due("DEEP", b.x.wouldRun(3000, 5, 0), 7);
        CHECK.due("STEPS", b.x.wouldRun(1, 1, 0), 6);
        CHECK.due("STEPS, enough", b.x.wouldRun(69, 6, 0), 0);
        CHECK.due("STEPS, one less", b.x.wouldRun(68, 6, 0), 6);
        CHECK.due("no run", b.x.ofRun(10), 0);
        CHECK.due("no STEPS", b.x.ofRun(3), 0);
        CHECK.bounds("printed(0, 0)", () -> b.x.printed(0, 0));
        b.x.run();
        b.x.wouldRun(1, 1, 0);
        CHECK.due("the latest run", b.x.ofRun(3), 69);
        CHECK.due("what it printed", b.printed(), "3 6");
        CHECK.due("MOST", b.x.many(8), 1000);
        CHECK.due("DEEP", b.x.many(9), 20);
        b.x.passes(0);
        CHECK.due("with the PASSES, CELLS", b.x.wouldRun(1000, 20, 6), 8);
        CHECK.due("with the PASSES, LIVE", b.x.wouldRun(1000, 20, 7), 6);
        int[][] wrong = {{0, 1, 0}, {3001, 1, 0}, {1, 0, 0}, {1, 41, 0}, {1, 1, 10}, {1, 1, -1}};
        for (int[] w : wrong) {
            CHECK.argument("wouldRun(" + w[0] + ", " + w[1] + ", " + w[2] + ")",
                () -> b.x.wouldRun(w[0], w[1], w[2]));
        }
        b.x.procedure(0, 15);
        CHECK.state("wouldRun with FAULTS", () -> b.x.wouldRun(1, 1, 0));
        CHECK.argument("wouldRun with FAULTS, wrong", () -> b.x.wouldRun(1, 1, 10));
    }

    private static void with() {
        Build b = program();
        int length = b.x.many(10);
        // FOLD spares two instructions of the MUL, TAIL the BACK.
        for (int passes = 0; passes <= 7; passes++) {
            int more = ((passes & 1) != 0 ? 0 : 2) + ((passes & 2) != 0 ? 0 : 1);
            CHECK.due("with(" + passes + ", 0)", b.x.with(passes, 0), length + more);
            CHECK.due("with(" + passes + ", 1)", b.x.with(passes, 1),
                (passes & 4) != 0 ? 1 : 8);
            CHECK.due("with(" + passes + ", 2)", b.x.with(passes, 2), (passes & 2) != 0 ? 3 : 6);
        }
        CHECK.due("PASSES", b.x.many(7), 7);
        CHECK.due("no run", b.x.ofRun(10), 0);
        CHECK.due("CODE", b.x.many(10), length);
        b.x.limits(1000, 3);
        CHECK.due("with the limits", b.x.with(0, 2), 3);
        CHECK.argument("with(8, 0)", () -> b.x.with(8, 0));
        CHECK.argument("with(-1, 0)", () -> b.x.with(-1, 0));
        CHECK.argument("with(0, 3)", () -> b.x.with(0, 3));
        CHECK.argument("with(0, -1)", () -> b.x.with(0, -1));
        b.x.procedure(0, 15);
        CHECK.state("with, with FAULTS", () -> b.x.with(0, 0));
        CHECK.argument("with, with FAULTS, wrong", () -> b.x.with(8, 0));
    }

    private static void hidden(Build b, int p, int name, int want) {
        CHECK.due("hiddenBy(" + p + ", " + name + ")", b.x.hiddenBy(p, name), want);
    }

    private static void hiddenBy() {
        Build b = new Build();
        b.x.variable(0, 0, 0, 0);
        b.x.procedure(0, 1);
        b.x.procedure(1, 2);
        b.x.variable(2, 3, 0, 0);
        b.x.procedure(2, 4);
        b.x.procedure(0, 5);
        b.body(3, b.set(0, b.use(3)), b.perform(b.call(2)), b.print(b.use(9)));
        b.body(2, b.print(b.use(0)), b.print(b.use(3)), b.print(b.number(0)));
        b.body(1, b.print(b.use(3)), b.print(b.at(0, b.number(0))),
            b.loop(0, b.use(7), b.leave(0)));
        b.body(0, b.count(0), b.perform(b.call(2)));
        b.print(b.use(0));
        hidden(b, 0, 0, 0);
        hidden(b, 1, 0, 3);
        hidden(b, 2, 0, 2);
        hidden(b, 3, 0, 1);
        hidden(b, 4, 0, 0);
        hidden(b, 3, 3, 1);
        hidden(b, 2, 3, 0);
        hidden(b, 1, 3, 1);
        hidden(b, 0, 3, 1);
        hidden(b, 0, 9, 1);
        hidden(b, 3, 9, 1);
        hidden(b, 0, 7, 1);
        hidden(b, 0, 2, 1);
        hidden(b, 1, 2, 0);
        hidden(b, 2, 2, 1);
        hidden(b, 3, 2, 1);
        hidden(b, 0, 15, 0);
        int faults = b.x.many(3);
        b.x.hiddenBy(0, 9);
        CHECK.due("FAULTS", b.x.many(3), faults);
        b.x.variable(1, 0, 0, 0);
        hidden(b, 1, 0, 0);
        hidden(b, 2, 0, 2);
        CHECK.bounds("hiddenBy of none such", () -> b.x.hiddenBy(5, 16));
        CHECK.bounds("hiddenBy of -1", () -> b.x.hiddenBy(-1, 0));
        CHECK.argument("hiddenBy, name 16", () -> b.x.hiddenBy(0, 16));
        CHECK.argument("hiddenBy, name -1", () -> b.x.hiddenBy(0, -1));
    }

    private static void digests() {
        StaticLink empty = new StaticLink();
        CHECK.due("digest of a new object", empty.digest(), Digest.of(empty));
        Build b = program();
        CHECK.due("digest", b.x.digest(), Digest.of(b.x));
        b.x.passes(4);
        b.x.run();
        b.x.limits(50, 4);
        long before = b.x.digest();
        CHECK.due("digest", before, Digest.of(b.x));
        CHECK.due("digest changes nothing", b.x.digest(), before);
        CHECK.due("the latest run", b.x.ofRun(3), 69);
        CHECK.due("runs", b.x.ofRun(10), 1);
        b.x.procedure(3, 7);
        CHECK.due("digest with FAULTS", b.x.digest(), Digest.of(b.x));
    }
}
