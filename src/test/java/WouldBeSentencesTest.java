/**
 * The sentences of promises 18 to 22 that name a boundary: each one stands ahead of its checks.
 * What is refused stands in RefusalsTest, too.
 */
public final class WouldBeSentencesTest {
    private static final Check CHECK = new Check("WouldBeSentencesTest");

    public static void main(String[] args) {
        many();
        manyOfNodesInOne();
        manyWithFaults();
        wouldRunLimits();
        wouldRunAsOfRun();
        wouldRunChangesNothing();
        withPasses();
        withTheLimits();
        withChangesNothing();
        hiddenBy();
        hiddenByKinds();
        hiddenByWhatItDeclares();
        digestOfNew();
        digests();
        digestWrapsAround();
        digestChangesNothing();
        CHECK.end();
    }

    private static void many(String what, StaticLink x, int... want) {
        for (int k = 0; k <= 10; k++) {
            CHECK.due(what + ": many(" + k + ")", x.many(k), want[k]);
        }
    }

    private static void many() {
        CHECK.says("0 PROCEDURES, 1 NODES, 2 NODES that are IN none, 3 FAULTS, 4 TAILS, 5 NODES "
            + "that are FOLDED, 6 PLACES that ESCAPE, 7 PASSES, 8 MOST, 9 DEEP, 10 how long the "
            + "CODE of all is (0 with FAULTS)");
        Build b = new Build();
        many("new", b.x, 1, 0, 0, 1, 0, 0, 0, 7, 1000, 20, 0);
        b.x.body(0, b.print(b.number(1)));
        many("a BODY", b.x, 1, 2, 0, 0, 0, 0, 0, 7, 1000, 20, 4);
        b.x.variable(0, 0, 2, 0);
        b.x.procedure(0, 1);
        b.x.variable(1, 2, 0, 0);
        b.x.variable(1, 3, 0, 0);
        b.x.procedure(1, 4);
        many("without BODIES", b.x, 3, 2, 0, 2, 0, 0, 0, 7, 1000, 20, 0);
        b.x.body(1, b.seq(b.keep(0, b.taken(4)), b.give(b.call(1))));
        b.x.body(2, b.seq(b.set(2, b.use(3)), b.give(b.call(1))));
        b.x.limits(1, 40);
        b.x.passes(6);
        // CODE: 4; CLOSE, PUT, GO, BACK, 2; GET, PUT, JUMPTO, 2.
        many("ESCAPES", b.x, 3, 12, 0, 0, 1, 0, 2, 6, 1, 40, 4 + 6 + 5);
        b.x.passes(4);
        b.x.limits(3000, 1);
        many("without TAIL", b.x, 3, 12, 0, 0, 1, 0, 2, 4, 3000, 1, 4 + 6 + 6);
        b.number(5);
        b.add(b.number(1), b.number(2));
        many("IN none", b.x, 3, 16, 4, 0, 1, 0, 2, 4, 3000, 1, 4 + 6 + 6);
        b.x.body(1, b.give(b.call(1)));
        many("nothing ESCAPES any more", b.x, 3, 18, 9, 0, 2, 0, 0, 4, 3000, 1, 4 + 4 + 6);
        int[] wrong = {-1, 11, Integer.MAX_VALUE, Integer.MIN_VALUE};
        for (int what : wrong) {
            CHECK.argument("many(" + what + ")", () -> b.x.many(what));
        }
    }

    private static void manyOfNodesInOne() {
        CHECK.says("Returns that (4 and 5 of NODES that are IN one)");
        for (int passes = 0; passes <= 7; passes++) {
            Build b = new Build();
            b.x.passes(passes);
            b.x.procedure(0, 0);
            int print = b.print(b.add(b.mul(b.number(1), b.number(2)), b.number(3)));
            int give = b.give(b.call(0));
            CHECK.due("FOLDED, IN none", b.x.many(5), 0);
            CHECK.due("TAILS, IN none", b.x.many(4), 0);
            CHECK.due("ofNode(ADD, 5)", b.x.ofNode(print - 1, 5), 1);
            b.x.body(1, b.seq(print, give));
            CHECK.due("FOLDED, whatever PASSES are on", b.x.many(5), 2);
            CHECK.due("TAILS, whatever PASSES are on", b.x.many(4), 1);
            b.x.body(1, b.print(b.number(1)));
            CHECK.due("FOLDED, IN none any more", b.x.many(5), 0);
            CHECK.due("TAILS, IN none any more", b.x.many(4), 0);
        }
    }

    private static void manyWithFaults() {
        CHECK.says("10 how long the CODE of all is (0 with FAULTS)");
        Build b = new Build();
        b.x.procedure(0, 0);
        b.x.body(0, b.print(b.number(1)));
        b.x.body(1, b.print(b.number(1)));
        CHECK.due("CODE", b.x.many(10), 8);
        b.x.body(1, b.print(b.use(9)));
        CHECK.due("FAULTS", b.x.many(3), 1);
        CHECK.due("CODE", b.x.many(10), 0);
        CHECK.due("of each", b.x.ofProcedure(0, 7), 0);
        b.x.variable(0, 9, 0, 0);
        CHECK.due("CODE", b.x.many(10), 8);
        CHECK.due("FAULTS", b.x.many(3), 0);
        CHECK.due("of each", b.x.ofProcedure(0, 7), 4);
    }

    /** MAIN CALLS 1, that CALLS itself, n FRAMES deep, and PRINTS. */
    private static Build nested(int n) {
        Build b = new Build();
        b.x.variable(0, 9, 0, 0);
        b.x.procedure(0, 0);
        b.x.parameter(1, 1, 0);
        b.x.variable(1, 2, 0, 0);
        b.x.body(1, b.when(b.use(1), b.print(b.call(0, b.sub(b.use(1), b.number(1)))), -1));
        b.x.body(0, b.seq(b.perform(b.call(0, b.number(n))), b.give(b.number(-5))));
        return b;
    }

    private static void wouldRunLimits() {
        CHECK.says("wouldRun: most is not 1 to 3000, deep is not 1 to 40, or what is not 0 to 9");
        Build b = nested(10);
        // SEQ, DO, CALL, ARGUMENT, NUMBER; IF, USE, and ten times PRINT, CALL, ARGUMENT, SUB, USE,
        // NUMBER, IF, USE; RETURN, NUMBER.
        int steps = 5 + 2 + 10 * 8 + 2;
        CHECK.due("enough", b.x.wouldRun(steps, 12, 0), 0);
        CHECK.due("STEPS", b.x.wouldRun(steps, 12, 3), steps);
        CHECK.due("DEPTH", b.x.wouldRun(steps, 12, 8), 12);
        CHECK.due("one STEP less", b.x.wouldRun(steps - 1, 12, 0), 6);
        CHECK.due("one less DEEP", b.x.wouldRun(steps, 11, 0), 7);
        CHECK.due("the least", b.x.wouldRun(1, 1, 0), 6);
        CHECK.due("the greatest", b.x.wouldRun(3000, 40, 0), 0);
        int[][] wrong = {{0, 1, 0}, {3001, 1, 0}, {1, 0, 0}, {1, 41, 0}, {1, 1, -1}, {1, 1, 10},
            {-1, 1, 0}, {1, -1, 0}, {Integer.MAX_VALUE, 1, 0}, {1, Integer.MAX_VALUE, 0},
            {1, 1, Integer.MAX_VALUE}, {Integer.MIN_VALUE, 1, 0}, {1, Integer.MIN_VALUE, 0},
            {1, 1, Integer.MIN_VALUE}};
        for (int[] w : wrong) {
            CHECK.argument("wouldRun(" + w[0] + ", " + w[1] + ", " + w[2] + ")",
                () -> b.x.wouldRun(w[0], w[1], w[2]));
        }
    }

    private static void wouldRunAsOfRun() {
        CHECK.says("what: as with ofRun(), 0 to 9; Returns that of a run with these");
        int[][] limits = {{1, 1}, {3000, 40}, {50, 40}, {89, 12}, {88, 12}, {89, 11}, {7, 2},
            {6, 2}, {5, 1}, {3000, 1}};
        for (int passes = 0; passes <= 7; passes++) {
            for (int[] l : limits) {
                Build b = nested(10);
                b.x.passes(passes);
                int[] would = new int[10];
                for (int what = 0; what <= 9; what++) {
                    would[what] = b.x.wouldRun(l[0], l[1], what);
                    CHECK.due("no run yet", b.x.ofRun(what), 0);
                }
                b.x.limits(l[0], l[1]);
                CHECK.due("run()", b.x.run(), would[0]);
                for (int what = 0; what <= 9; what++) {
                    CHECK.due("ofRun(" + what + ")", b.x.ofRun(what), would[what]);
                }
                CHECK.due("a TRAP gives 0", would[9], would[0] == 0 ? -5 : 0);
                CHECK.due("without one its NODE is NONE", would[1] == -1 ? 1 : 0,
                    would[0] == 0 ? 1 : 0);
            }
        }
    }

    private static void wouldRunChangesNothing() {
        CHECK.says("what would be (nothing is changed)");
        Build b = nested(3);
        b.x.run();
        String before = b.ofRun() + ", " + b.printed() + ", " + b.x.printed(2, 1);
        double mean = b.x.meanPrinted();
        long digest = b.x.digest();
        b.x.body(0, b.seq(b.print(b.number(77)), b.perform(b.call(0, b.number(5)))));
        int[] all = {b.x.wouldRun(3000, 40, 4), b.x.wouldRun(2, 1, 4), b.x.with(0, 1),
            b.x.with(7, 2), b.x.hiddenBy(0, 3)};
        CHECK.due("how many would be PRINTED", all[0], 6);
        CHECK.due("how many would be PRINTED", all[1], 0);
        CHECK.due("the latest run", b.ofRun() + ", " + b.printed() + ", " + b.x.printed(2, 1),
            before);
        CHECK.due("the mean", b.x.meanPrinted(), mean);
        CHECK.due("runs", b.x.ofRun(10), 1);
        CHECK.due("MOST", b.x.many(8), 1000);
        CHECK.due("DEEP", b.x.many(9), 20);
        CHECK.due("PASSES", b.x.many(7), 7);
        CHECK.due("the digest is another one", b.x.digest() == digest ? 1 : 0, 0);
    }

    private static void withPasses() {
        CHECK.says("with: 0 how long the CODE of all would be with these, 1 the CELLS, 2 the most "
            + "that would be LIVE, of a run; passes is not 0 to 7, or what is not 0 to 2");
        Build b = new Build();
        b.x.variable(0, 0, 0, 0);
        b.x.procedure(0, 1);
        b.x.procedure(0, 2);
        b.x.variable(2, 3, 0, 0);
        b.x.variable(2, 4, 0, 0);
        b.x.body(1, b.give(b.call(2)));
        b.x.body(2, b.print(b.mul(b.number(2), b.number(3))));
        b.x.body(0, b.perform(b.call(1)));
        // GO, DROP, 2; GO, BACK, 2; PUSH, PUSH, MUL, PRINT, 2.
        for (int on = 0; on <= 7; on++) {
            b.x.passes(on);
            for (int passes = 0; passes <= 7; passes++) {
                int fold = (passes & 1) != 0 ? 2 : 0;
                int tail = (passes & 2) != 0 ? 1 : 0;
                CHECK.due("with(" + passes + ", 0)", b.x.with(passes, 0), 14 - fold - tail);
                CHECK.due("with(" + passes + ", 1)", b.x.with(passes, 1),
                    (passes & 4) != 0 ? 0 : 3);
                CHECK.due("with(" + passes + ", 2)", b.x.with(passes, 2), 3 - tail);
            }
            CHECK.due("PASSES", b.x.many(7), on);
        }
        int[] wrong = {-1, 8, Integer.MAX_VALUE, Integer.MIN_VALUE};
        for (int passes : wrong) {
            CHECK.argument("with(" + passes + ", 0)", () -> b.x.with(passes, 0));
        }
        int[] whats = {-1, 3, Integer.MAX_VALUE, Integer.MIN_VALUE};
        for (int what : whats) {
            CHECK.argument("with(0, " + what + ")", () -> b.x.with(0, what));
        }
    }

    private static void withTheLimits() {
        CHECK.says("the CELLS, the most that would be LIVE, of a run");
        Build b = nested(30);
        // DEEP is 20 at first: MAIN's CELL, and two of each other FRAME.
        CHECK.due("LIVE", b.x.with(0, 2), 20);
        CHECK.due("CELLS", b.x.with(0, 1), 1 + 19 * 2);
        b.x.limits(1000, 40);
        CHECK.due("LIVE", b.x.with(0, 2), 32);
        CHECK.due("CELLS", b.x.with(0, 1), 1 + 31 * 2);
        b.x.limits(1000, 1);
        CHECK.due("LIVE", b.x.with(0, 2), 1);
        CHECK.due("CELLS", b.x.with(0, 1), 1);
        // SEQ, DO, CALL, ARGUMENT, NUMBER; then eight STEPS a FRAME.
        b.x.limits(5 + 8 * 4, 40);
        CHECK.due("LIVE, by MOST", b.x.with(0, 2), 6);
        CHECK.due("CELLS, by MOST", b.x.with(0, 1), 1 + 5 * 2);
    }

    private static void withChangesNothing() {
        CHECK.says("what would be (nothing is changed)");
        Build b = nested(3);
        String code = b.code(0) + b.code(1);
        for (int passes = 0; passes <= 7; passes++) {
            for (int what = 0; what <= 2; what++) {
                b.x.with(passes, what);
                CHECK.due("CODE", b.code(0) + b.code(1), code);
                CHECK.due("runs", b.x.ofRun(10), 0);
                CHECK.due("STEPS", b.x.ofRun(3), 0);
                CHECK.due("PASSES", b.x.many(7), 7);
            }
        }
    }

    private static void hiddenBy() {
        CHECK.says("how many NODES, IN this PROCEDURE or one INSIDE it, have a NAME that would be "
            + "something else (also if it is unbound now), if the PROCEDURE declared that NAME (0, "
            + "if it does)");
        // MAIN, 1 in it, 2 in 1, 3 in 2, and 4 in MAIN; a NODE with NAME 9 IN each of them. Who
        // declares it, as a set; how many of the NODES each PROCEDURE would hide.
        int[] parents = {-1, 0, 1, 2, 0};
        for (int owners = 0; owners < 32; owners++) {
            Build b = new Build();
            b.x.procedure(0, 1);
            b.x.procedure(1, 2);
            b.x.procedure(2, 3);
            b.x.procedure(0, 4);
            for (int p = 0; p <= 4; p++) {
                if ((owners >> p & 1) == 1) {
                    b.x.variable(p, 9, 0, 0);
                }
                b.x.body(p, b.print(b.use(9)));
            }
            for (int p = 0; p <= 4; p++) {
                int want = 0;
                for (int user = 0; user <= 4; user++) {
                    int at = user;
                    while (at != -1 && at != p && (owners >> at & 1) == 0) {
                        at = parents[at];
                    }
                    want += at == p && (owners >> p & 1) == 0 ? 1 : 0;
                }
                CHECK.due("hiddenBy(" + p + ", 9), declared in " + owners, b.x.hiddenBy(p, 9),
                    want);
            }
        }
    }

    private static void hiddenByKinds() {
        CHECK.says("how many NODES .. have a NAME that would be something else");
        Build b = new Build();
        int[] nodes = {b.print(b.use(0)), b.print(b.at(0, b.number(0))), b.print(b.call(0)),
            b.keep(1, b.taken(0)), b.print(b.call(1, b.array(0))), b.set(0, b.number(0)),
            b.store(0, b.number(0), b.number(0)), b.keep(0, b.taken(1))};
        for (int k = 0; k < nodes.length; k++) {
            b.x.body(0, nodes[k]);
            CHECK.due("NODE " + k, b.x.hiddenBy(0, 0), 1);
        }
        b.x.body(0, b.leave(0));
        b.x.body(0, b.seq(nodes));
        CHECK.due("all", b.x.hiddenBy(0, 0), 8);
        b.x.body(0, b.loop(0, b.number(0), b.leave(0)));
        CHECK.due("NUMBERS and LABELS are no NAMES", b.x.hiddenBy(0, 0), 0);
        b.print(b.use(0));
        CHECK.due("what is IN none does not count", b.x.hiddenBy(0, 0), 0);
        b.x.body(0, b.print(b.use(15)));
        CHECK.due("NAME 15", b.x.hiddenBy(0, 15), 1);
    }

    private static void hiddenByWhatItDeclares() {
        CHECK.says("(0, if it does)");
        for (int which = 0; which <= 3; which++) {
            Build b = new Build();
            b.x.procedure(0, 1);
            b.x.body(1, b.print(b.add(b.use(9), b.use(9))));
            CHECK.due("twice", b.x.hiddenBy(1, 9), 2);
            CHECK.due("twice, for MAIN", b.x.hiddenBy(0, 9), 2);
            switch (which) {
                case 0: b.x.procedure(1, 9); break;
                case 1: b.x.parameter(1, 9, 0); break;
                case 2: b.x.variable(1, 9, 0, 0); break;
                default: b.x.variable(1, 9, 3, 7); break;
            }
            CHECK.due("it declares it", b.x.hiddenBy(1, 9), 0);
            CHECK.due("so MAIN would hide nothing", b.x.hiddenBy(0, 9), 0);
        }
    }

    private static long digest(long... numbers) {
        long d = 58126;
        for (long v : numbers) {
            d = d * 31 + v;
        }
        return d;
    }

    private static void digestOfNew() {
        CHECK.says("A number d starts with 58126; for each of the following numbers v, d becomes d "
            + "* 31 + v");
        CHECK.due("digest of a new object", new StaticLink().digest(), digest(
            1, 0, 0, 1, 0, 0, 0, 7, 1000, 20, 0,
            -1, -1, 0, 0, 0, 0, -1, 0,
            0, 0, 0, 0, 0, 0, 0, 0,
            10, 0, -1,
            0, 0, 0, 0, 0, 0, 0, 0, 0, 0, 0));
        Build b = new Build();
        b.x.body(0, b.print(b.number(6)));
        b.x.run();
        CHECK.due("digest of a program that has been run", b.x.digest(), digest(
            1, 2, 0, 0, 0, 0, 0, 7, 1000, 20, 4,
            -1, -1, 0, 0, 0, 0, 1, 4,
            0, 0, 0, 0, 0, 0, 0, 0,
            1, 6, 0, 2, 26, 0, 0, 0, 1, 0, 0, 0, 15, 0, 0, 0,
            0, 0, 0, -1, 0, 0, 0, -1,
            0, -1, -1, 2, 1, 1, 0, 1, 1, 0, 1,
            6, 2, 1,
            4, 0, 1,
            0, -1, -1, 2, 1, 1, 0, 1, 1, 0));
    }

    private static void digests() {
        CHECK.says("many() of 0 to 10; PROCEDURE by PROCEDURE ofProcedure() of 0 to 7, hiddenBy() "
            + "of the NAMES 0 to 7, and, without FAULTS, of its CODE, place by place, code() of 0 "
            + "to 3; NODE by NODE ofNode() of 4 to 7; FAULT by FAULT fault() of 0 to 2; ofRun() of "
            + "0 to 10; of each number PRINTED that is kept printed() of 0 to 2; without FAULTS "
            + "with() of 0 and each of 0 to 2, and wouldRun() of 200, 10 and each of 0 to 9");
        for (int passes = 0; passes <= 7; passes++) {
            // DEPTH is about 10, and STEPS are about 200: each of the two decides, now and then.
            for (int n = 5; n <= 11; n++) {
                Build b = nested(n);
                b.x.passes(passes);
                b.x.run();
                CHECK.due("nested(" + n + ")", b.x.digest(), Digest.of(b.x));
            }
            for (int turns = 15; turns <= 60; turns += 5) {
                Build b = new Build();
                b.x.variable(0, 7, 0, 0);
                b.x.passes(passes);
                b.x.body(0, b.loop(0, b.less(b.use(7), b.number(turns)), b.seq(
                    b.print(b.mul(b.number(2), b.number(3))), b.count(7))));
                b.x.run();
                CHECK.due("turns " + turns, b.x.digest(), Digest.of(b.x));
            }
            Build c = new Build();
            c.x.passes(passes);
            c.x.body(0, c.loop(0, c.number(1), c.print(c.number(4))));
            c.x.limits(3000, 1);
            c.x.run();
            CHECK.due("all kept", c.x.digest(), Digest.of(c.x));
        }
        Build f = new Build();
        f.x.procedure(0, 1);
        f.x.procedure(1, 7);
        f.x.body(2, f.seq(f.print(f.use(0)), f.print(f.use(7)), f.print(f.use(8)), f.leave(3)));
        f.x.body(0, f.set(0, f.at(2, f.number(1))));
        f.number(4);
        CHECK.due("many FAULTS", f.x.many(3), 7);
        CHECK.due("digest with FAULTS", f.x.digest(), Digest.of(f.x));
        f.x.body(1, f.print(f.number(1)));
        CHECK.due("digest with FAULTS", f.x.digest(), Digest.of(f.x));
    }

    private static void digestWrapsAround() {
        CHECK.says("which wraps around as a 64-bit integer");
        // 58126 by 31^n is more than 2^63 from n = 10 on; a new object has 41 numbers.
        java.math.BigInteger d = java.math.BigInteger.valueOf(58126);
        int[] all = {1, 0, 0, 1, 0, 0, 0, 7, 1000, 20, 0, -1, -1, 0, 0, 0, 0, -1, 0, 0, 0, 0, 0,
            0, 0, 0, 0, 10, 0, -1, 0, 0, 0, 0, 0, 0, 0, 0, 0, 0, 0};
        for (int v : all) {
            d = d.multiply(java.math.BigInteger.valueOf(31)).add(java.math.BigInteger.valueOf(v));
        }
        CHECK.due("it is greater", d.bitLength() > 64 ? 1 : 0, 1);
        CHECK.due("digest of a new object", new StaticLink().digest(), d.longValue());
    }

    private static void digestChangesNothing() {
        CHECK.says("what would be (nothing is changed)");
        Build b = nested(6);
        b.x.run();
        String before = b.ofRun() + b.printed() + b.code(0) + b.code(1);
        long digest = b.x.digest();
        for (int k = 0; k < 3; k++) {
            CHECK.due("digest", b.x.digest(), digest);
            CHECK.due("all else", b.ofRun() + b.printed() + b.code(0) + b.code(1), before);
            CHECK.due("runs", b.x.ofRun(10), 1);
            CHECK.due("MOST", b.x.many(8), 1000);
            CHECK.due("DEEP", b.x.many(9), 20);
            CHECK.due("PASSES", b.x.many(7), 7);
        }
    }
}
