/**
 * The sentences of section 4 on STEPS, DEPTH and TRAPS, and those of promises 13 to 17, that name
 * a boundary: each one stands ahead of its checks. What is refused stands in RefusalsTest, too.
 */
public final class TrapsSentencesTest {
    private static final Check CHECK = new Check("TrapsSentencesTest");
    private static final int MOST = Integer.MAX_VALUE;
    private static final int LEAST = Integer.MIN_VALUE;

    public static void main(String[] args) {
        eachNodeIsAStep();
        byNameSteps();
        refSteps();
        loopIsBegunOnce();
        mostSteps();
        mostIs1000AtFirst();
        deepIs20AtFirst();
        depth();
        depthOfTails();
        divBy0();
        callOfEmpty();
        wrongNumberOfArguments();
        breakNotGoingOn();
        nodeOfTooManySteps();
        orderOfTraps();
        trapsEndARun();
        limits();
        run();
        ofRun();
        ofRunAheadOfAll();
        mainGave();
        printed();
        meanPrinted();
        CHECK.end();
    }

    private static void steps(Build b, String what, int want) {
        CHECK.due(what + ": run()", b.x.run(), 0);
        CHECK.due(what + ": STEPS", b.x.ofRun(3), want);
    }

    private static void eachNodeIsAStep() {
        CHECK.says("STEPS: each NODE that is begun is one, ahead of its parts (an ARGUMENT, a "
            + "TAKEN and an ARRAY NAME, too)");
        Build b = new Build();
        b.x.variable(0, 0, 0, 0);
        b.x.variable(0, 1, 1, 2);
        b.x.variable(0, 2, 2, 0);
        b.x.procedure(0, 3);
        b.x.procedure(0, 4);
        b.x.parameter(2, 5, 5);
        b.x.procedure(0, 6);
        b.x.parameter(3, 7, 3);
        b.x.parameter(3, 8, 4);
        b.x.procedure(0, 9);
        b.x.parameter(4, 10, 0);
        for (int p = 1; p <= 4; p++) {
            b.x.body(p, b.give(b.number(0)));
        }
        int[] bodies = {b.print(b.number(1)), b.print(b.use(0)), b.print(b.at(1, b.number(0))),
            b.print(b.add(b.number(1), b.number(2))), b.perform(b.call(3)),
            b.perform(b.call(9, b.number(1))), b.perform(b.call(4, b.taken(3))),
            b.perform(b.call(6, b.array(1), b.array(1))),
            b.seq(b.give(b.number(1)), b.print(b.number(9))),
            b.set(0, b.number(1)), b.store(1, b.number(0), b.number(1)),
            b.when(b.number(1), b.print(b.number(1)), b.print(b.add(b.number(1), b.number(1)))),
            b.when(b.number(0), b.print(b.number(1)), b.print(b.add(b.number(1), b.number(1)))),
            b.when(b.number(0), b.print(b.number(1)), -1), b.loop(0, b.number(0), b.leave(0)),
            b.loop(0, b.number(1), b.leave(0)), b.keep(2, b.taken(3)), b.give(b.number(1))};
        int[] want = {2, 2, 3, 4, 4, 6, 6, 8, 3, 2, 3, 4, 6, 2, 2, 3, 2, 2};
        for (int k = 0; k < bodies.length; k++) {
            b.x.body(0, bodies[k]);
            steps(b, "BODY " + k, want[k]);
        }
        Build c = new Build();
        c.body(0, c.give(c.number(1)), c.print(c.number(2)));
        steps(c, "what is not begun is none", 3);
    }

    private static void byNameSteps() {
        CHECK.says("what is BY NAME not as it is handed on, but each time it is reckoned");
        for (int used = 0; used <= 4; used++) {
            Build b = new Build();
            b.x.procedure(0, 0);
            b.x.parameter(1, 1, 2);
            int body = b.print(b.number(1));
            for (int k = 0; k < used; k++) {
                body = b.seq(body, b.print(b.use(1)));
            }
            b.x.body(1, body);
            b.x.body(0, b.perform(b.call(0, b.mul(b.number(2), b.number(3)))));
            // DO, CALL, ARGUMENT; PRINT, NUMBER; each time SEQ, PRINT, USE, MUL, NUMBER, NUMBER.
            steps(b, "used " + used + " times", 5 + used * 6);
        }
    }

    private static void refSteps() {
        CHECK.says("a REF its USE, or AT and what is in it, as it is handed on");
        for (int used = 0; used <= 3; used++) {
            Build b = new Build();
            b.x.variable(0, 0, 0, 0);
            b.x.variable(0, 1, 1, 3);
            b.x.procedure(0, 2);
            b.x.parameter(1, 3, 1);
            int body = b.print(b.number(1));
            for (int k = 0; k < used; k++) {
                body = b.seq(body, b.print(b.use(3)));
            }
            b.x.body(1, body);
            b.x.body(0, b.perform(b.call(2, b.use(0))));
            // DO, CALL, ARGUMENT, USE; PRINT, NUMBER; each time SEQ, PRINT, USE.
            steps(b, "a USE, used " + used + " times", 6 + used * 3);
            b.x.body(0, b.perform(b.call(2, b.at(1, b.add(b.number(1), b.number(1))))));
            // AT, ADD, NUMBER, NUMBER instead of USE.
            steps(b, "an AT, used " + used + " times", 9 + used * 3);
        }
    }

    private static void loopIsBegunOnce() {
        CHECK.says("A LOOP is begun once, its b with each turn");
        for (int turns = 0; turns <= 3; turns++) {
            Build b = new Build();
            b.x.variable(0, 0, 0, 0);
            b.x.body(0, b.loop(1, b.less(b.use(0), b.number(turns)), b.count(0)));
            // LOOP; each turn, and once more, LESS, USE, NUMBER; each turn SET, ADD, USE, NUMBER.
            steps(b, turns + " turns", 1 + (turns + 1) * 3 + turns * 4);
        }
    }

    /** SETS a NUMBER of MAIN n times: 3n STEPS, but for the last one, that has no SEQ. */
    private static Build setting(int n) {
        Build b = new Build();
        b.x.variable(0, 0, 0, 0);
        int body = b.set(0, b.number(n));
        for (int k = 1; k < n; k++) {
            body = b.seq(b.set(0, b.number(k)), body);
        }
        b.x.body(0, body);
        return b;
    }

    private static void mostSteps() {
        CHECK.says("6 a STEP would be more than MOST");
        for (int n = 1; n <= 20; n++) {
            Build b = setting(n);
            int steps = 3 * n - 1;
            for (int more = -1; more <= 1; more++) {
                b.x.limits(steps + more, 1);
                CHECK.due("run() with MOST " + (steps + more), b.x.run(), more < 0 ? 6 : 0);
                CHECK.due("STEPS", b.x.ofRun(3), more < 0 ? steps - 1 : steps);
            }
        }
        CHECK.says("MOST is 1 to 3000");
        Build c = new Build();
        c.x.body(0, c.loop(0, c.number(1), c.print(c.number(2))));
        c.x.limits(3000, 1);
        CHECK.due("run()", c.x.run(), 6);
        CHECK.due("STEPS", c.x.ofRun(3), 3000);
        // The LOOP, then turns of three STEPS: the last two STEPS are a b and a PRINT.
        CHECK.due("how many are PRINTED", c.x.ofRun(4), 999);
        c.x.limits(1, 1);
        CHECK.due("run()", c.x.run(), 6);
        CHECK.due("STEPS", c.x.ofRun(3), 1);
        int leave = c.leave(0);
        c.x.body(0, c.loop(0, c.number(1), leave));
        c.x.limits(3, 1);
        CHECK.due("run() of three STEPS", c.x.run(), 0);
        c.x.limits(2, 1);
        CHECK.due("run() of one less", c.x.run(), 6);
        CHECK.due("its NODE", c.x.ofRun(1), leave);
    }

    private static void mostIs1000AtFirst() {
        CHECK.says("MOST is 1 to 3000 (1000 at first)");
        Build b = new Build();
        b.x.body(0, b.loop(0, b.number(1), b.print(b.number(2))));
        CHECK.due("run()", b.x.run(), 6);
        CHECK.due("STEPS", b.x.ofRun(3), 1000);
        CHECK.due("many(8)", b.x.many(8), 1000);
        CHECK.due("limits returns MOST before", b.x.limits(5, 5), 1000);
    }

    private static void deepIs20AtFirst() {
        CHECK.says("DEEP 1 to 40 (20)");
        Build b = new Build();
        b.x.procedure(0, 0);
        b.x.body(1, b.perform(b.call(0)));
        int call = b.call(0);
        b.x.body(0, b.perform(call));
        CHECK.due("run()", b.x.run(), 7);
        CHECK.due("DEPTH", b.x.ofRun(8), 20);
        CHECK.due("many(9)", b.x.many(9), 20);
        int[] all = {1, 2, 39, 40};
        for (int deep : all) {
            b.x.limits(3000, deep);
            CHECK.due("run()", b.x.run(), 7);
            CHECK.due("DEPTH with DEEP " + deep, b.x.ofRun(8), deep);
            CHECK.due("FRAMES", b.x.ofRun(5), deep);
            CHECK.due("STEPS", b.x.ofRun(3), 2 * deep);
            CHECK.due("its NODE", b.x.ofRun(1), deep == 1 ? call : 0);
            CHECK.due("its PROCEDURE", b.x.ofRun(2), deep == 1 ? 0 : 1);
        }
    }

    private static void depth() {
        CHECK.says("DEPTH: how many CALLS are in each other, MAIN too");
        Build b = new Build();
        b.x.procedure(0, 1);
        b.x.parameter(1, 2, 0);
        b.x.procedure(0, 3);
        b.x.body(2, b.give(b.number(1)));
        b.x.body(1, b.when(b.use(2), b.give(b.add(b.number(0), b.call(1, b.sub(b.use(2),
            b.number(1))))), -1));
        for (int n = 0; n <= 5; n++) {
            b.x.body(0, b.perform(b.call(1, b.number(n))));
            b.x.limits(1000, n + 2);
            CHECK.due("run()", b.x.run(), 0);
            CHECK.due("DEPTH", b.x.ofRun(8), n + 2);
            b.x.limits(1000, n + 1);
            CHECK.due("run() with DEEP one less", b.x.run(), 7);
            CHECK.due("DEPTH", b.x.ofRun(8), n + 1);
        }
        // One behind the other, in LOOPS, too: these are not in each other.
        Build c = new Build();
        c.x.variable(0, 0, 0, 0);
        c.x.procedure(0, 3);
        c.x.body(1, c.give(c.number(1)));
        int twice = c.add(c.call(3), c.call(3));
        c.x.body(0, c.loop(0, c.less(c.use(0), c.number(5)), c.loop(1, c.number(1),
            c.seq(c.count(0), c.print(c.add(twice, c.call(3))), c.leave(1)))));
        c.x.limits(1000, 2);
        CHECK.run(c, "fifteen CALLS", 0, "3 3 3 3 3");
        CHECK.due("DEPTH", c.x.ofRun(8), 2);
        CHECK.due("FRAMES", c.x.ofRun(5), 16);
        c.x.limits(1000, 1);
        CHECK.due("run() with DEEP 1", c.x.run(), 7);
        // What is BY NAME is no CALL; one that is in it is as deep as where it is used.
        Build d = new Build();
        d.x.procedure(0, 1);
        d.x.parameter(1, 2, 2);
        d.x.procedure(0, 3);
        d.x.body(1, d.print(d.use(2)));
        d.x.body(2, d.give(d.number(6)));
        d.x.body(0, d.seq(d.perform(d.call(1, d.number(1))), d.perform(d.call(1, d.call(3))),
            d.perform(d.call(1, d.call(3)))));
        d.x.limits(1000, 3);
        CHECK.run(d, "BY NAME", 0, "1 6 6");
        CHECK.due("DEPTH", d.x.ofRun(8), 3);
        d.x.limits(1000, 2);
        CHECK.run(d, "BY NAME, too deep", 7, "1");
    }

    private static void depthOfTails() {
        CHECK.says("DEPTH: how many CALLS are in each other (a TAIL ends none)");
        Build b = new Build();
        b.x.procedure(0, 1);
        b.x.parameter(1, 2, 0);
        b.x.body(1, b.when(b.use(2), b.give(b.call(1, b.sub(b.use(2), b.number(1)))), -1));
        b.x.body(0, b.perform(b.call(1, b.number(38))));
        for (int passes = 0; passes <= 7; passes++) {
            b.x.passes(passes);
            b.x.limits(3000, 40);
            CHECK.due("run()", b.x.run(), 0);
            CHECK.due("DEPTH", b.x.ofRun(8), 40);
            CHECK.due("LIVE", b.x.ofRun(7), (passes & 2) != 0 ? 2 : 40);
            b.x.limits(3000, 39);
            CHECK.due("run()", b.x.run(), 7);
            CHECK.due("DEPTH", b.x.ofRun(8), 39);
        }
    }

    private static void divBy0() {
        CHECK.says("TRAPS: 1 DIV by 0; (1 and 2 come behind b and c)");
        int[] left = {0, 1, -999};
        for (int v : left) {
            Build b = new Build();
            b.x.procedure(0, 0);
            b.x.parameter(1, 1, 0);
            b.x.body(1, b.seq(b.print(b.use(1)), b.give(b.use(1))));
            int div = b.div(b.call(0, b.number(v)), b.call(0, b.number(0)));
            b.x.body(0, b.print(div));
            CHECK.run(b, v + " / 0", 1, v + " 0");
            CHECK.due("ofRun", b.ofRun(), "1 " + div + " 0 18 2 3 0 2 2 0");
            b.x.body(0, b.print(b.div(b.number(0), b.number(7))));
            CHECK.run(b, "0 / 7", 0, "0");
        }
        Build c = new Build();
        int inB = c.div(c.number(1), c.number(0));
        c.x.body(0, c.print(c.div(inB, c.number(0))));
        CHECK.run(c, "one in b comes first", 1, "");
        CHECK.due("its NODE", c.x.ofRun(1), inB);
        Build d = new Build();
        d.x.variable(0, 0, 1, 1);
        int inC = d.div(d.number(1), d.number(0));
        d.x.body(0, d.store(0, d.number(9), inC));
        CHECK.run(d, "2 of a STORE comes behind c", 1, "");
        CHECK.due("its NODE", d.x.ofRun(1), inC);
        int at = d.at(0, d.number(1));
        d.x.body(0, d.store(0, at, d.div(d.number(1), d.number(0))));
        CHECK.run(d, "b of a STORE comes first", 2, "");
        CHECK.due("its NODE", d.x.ofRun(1), at);
    }

    private static void callOfEmpty() {
        CHECK.says("3 a CALL of EMPTY");
        Build b = new Build();
        b.x.variable(0, 0, 2, 0);
        b.x.procedure(0, 1);
        b.x.variable(1, 2, 2, 0);
        b.x.procedure(0, 3);
        b.x.body(2, b.print(b.number(5)));
        int own = b.call(2);
        b.x.body(1, b.perform(own));
        int mine = b.call(0);
        b.x.body(0, b.perform(mine));
        CHECK.run(b, "MAIN's", 3, "");
        CHECK.due("ofRun", b.ofRun(), "3 " + mine + " 0 2 0 1 0 1 1 0");
        b.x.body(0, b.seq(b.keep(0, b.taken(3)), b.perform(b.call(0)), b.perform(b.call(1))));
        CHECK.run(b, "that of a FRAME", 3, "5");
        CHECK.due("its NODE", b.x.ofRun(1), own);
        CHECK.due("its PROCEDURE", b.x.ofRun(2), 1);
        CHECK.due("FRAMES", b.x.ofRun(5), 3);
    }

    private static void wrongNumberOfArguments() {
        CHECK.says("4 a CALL of a PROC with a wrong number of ARGUMENTS");
        for (int parameters = 0; parameters <= 4; parameters++) {
            for (int given = 0; given <= 5; given++) {
                Build b = new Build();
                b.x.variable(0, 0, 2, 0);
                b.x.procedure(0, 1);
                for (int k = 0; k < parameters; k++) {
                    b.x.parameter(1, 2 + k, 0);
                }
                b.x.body(1, b.print(parameters == 0 ? b.number(7) : b.use(1 + parameters)));
                int[] handed = new int[given];
                for (int k = 0; k < given; k++) {
                    handed[k] = b.number(k + 1);
                }
                int call = b.call(0, handed);
                b.x.body(0, b.seq(b.keep(0, b.taken(1)), b.perform(call)));
                boolean isRight = given == parameters;
                CHECK.run(b, given + " for " + parameters, isRight ? 0 : 4,
                    !isRight ? "" : given == 0 ? "7" : "" + given);
                CHECK.due("its NODE", b.x.ofRun(1), isRight ? -1 : call);
                CHECK.due("behind the ARGUMENTS", b.x.ofRun(3), 5 + 2 * given + (isRight ? 2 : 0));
            }
        }
    }

    private static void breakNotGoingOn() {
        CHECK.says("5 a BREAK whose LOOP is not GOING ON; The NODE of a TRAP: 5 the BREAK");
        Build b = new Build();
        b.x.procedure(0, 1);
        b.x.procedure(1, 2);
        int leave = b.leave(0);
        b.x.body(2, leave);
        b.x.body(1, b.perform(b.call(2)));
        b.x.body(0, b.seq(b.loop(0, b.number(0), b.print(b.number(1))), b.perform(b.call(1))));
        CHECK.run(b, "from two further in", 5, "");
        CHECK.due("ofRun", b.ofRun(), "5 " + leave + " 2 8 0 3 0 3 3 0");
    }

    private static void nodeOfTooManySteps() {
        CHECK.says("The NODE of a TRAP: for 6 the one that would be begun");
        Build b = new Build();
        b.x.variable(0, 0, 0, 0);
        b.x.procedure(0, 1);
        b.x.parameter(1, 2, 2);
        b.x.parameter(1, 3, 1);
        int use = b.use(2);
        int give = b.give(use);
        b.x.body(1, give);
        int one = b.number(1);
        int two = b.number(2);
        int sum = b.add(one, two);
        int ref = b.use(0);
        int refs = b.x.node(9, 0, ref, -1);
        int names = b.x.node(9, 0, sum, refs);
        int call = b.x.node(8, 1, names, 0);
        int print = b.print(call);
        int zero = b.number(0);
        int last = b.print(b.number(4));
        int loop = b.loop(0, zero, last);
        int seq = b.seq(print, loop);
        b.x.body(0, seq);
        int[] due = {seq, print, call, names, refs, ref, give, use, sum, one, two, loop, zero};
        int[] in = {0, 0, 0, 0, 0, 0, 1, 1, 0, 0, 0, 0, 0};
        for (int passes = 0; passes <= 7; passes++) {
            b.x.passes(passes);
            for (int most = 1; most < due.length; most++) {
                CHECK.due("TRAP", b.x.wouldRun(most, 20, 0), 6);
                CHECK.due("its NODE, MOST " + most, b.x.wouldRun(most, 20, 1), due[most]);
                CHECK.due("its PROCEDURE", b.x.wouldRun(most, 20, 2), in[most]);
                CHECK.due("STEPS", b.x.wouldRun(most, 20, 3), most);
            }
            CHECK.due("enough", b.x.wouldRun(due.length, 20, 0), 0);
        }
    }

    private static void orderOfTraps() {
        CHECK.says("3, 4 and 7 behind the ARGUMENTS, in this order: a PROC is looked at there");
        Build b = new Build();
        b.x.variable(0, 0, 2, 0);
        b.x.procedure(0, 1);
        b.x.parameter(1, 2, 0);
        b.x.body(1, b.print(b.use(2)));
        b.x.limits(1000, 1);
        int[] handed = {b.div(b.number(1), b.number(0)), b.number(1), b.number(2)};
        b.x.body(0, b.perform(b.call(0, handed[0], handed[1])));
        CHECK.run(b, "an ARGUMENT ahead of all", 1, "");
        b.x.body(0, b.perform(b.call(0)));
        CHECK.run(b, "3 ahead of 4 and 7", 3, "");
        b.x.body(0, b.seq(b.keep(0, b.taken(1)), b.perform(b.call(0))));
        CHECK.run(b, "4 ahead of 7", 4, "");
        b.x.body(0, b.seq(b.keep(0, b.taken(1)), b.perform(b.call(0, b.number(1)))));
        CHECK.run(b, "7 of a PROC", 7, "");
        CHECK.due("STEPS, with the ARGUMENT's", b.x.ofRun(3), 7);
        b.x.body(0, b.perform(b.call(1, b.div(b.number(1), b.number(0)))));
        CHECK.run(b, "an ARGUMENT ahead of 7", 1, "");
        b.x.body(0, b.perform(b.call(1, b.number(1))));
        CHECK.run(b, "7 of a PROCEDURE", 7, "");
        CHECK.due("STEPS, with the ARGUMENT's", b.x.ofRun(3), 4);
        CHECK.due("CALLS: it did not begin", b.x.ofRun(5), 1);
        b.x.limits(4, 2);
        CHECK.run(b, "the FRAME began, its BODY did not", 6, "");
        CHECK.due("CALLS", b.x.ofRun(5), 2);
        CHECK.due("DEPTH", b.x.ofRun(8), 2);
        procOfAnArgument();
    }

    private static void procOfAnArgument() {
        // The ARGUMENT makes the PROC another one, and it is that which is CALLED.
        Build b = new Build();
        b.x.variable(0, 0, 2, 0);
        b.x.procedure(0, 1);
        b.x.parameter(1, 2, 0);
        b.x.procedure(0, 3);
        b.x.procedure(0, 4);
        b.x.body(1, b.print(b.use(2)));
        b.x.body(2, b.seq(b.keep(0, b.taken(1)), b.give(b.number(6))));
        b.x.body(3, b.print(b.number(-1)));
        b.x.body(0, b.seq(b.keep(0, b.taken(4)), b.perform(b.call(0, b.call(3)))));
        CHECK.run(b, "a PROC is looked at behind its ARGUMENTS", 0, "6");
    }

    private static void trapsEndARun() {
        CHECK.says("TRAPS end a run");
        Build b = new Build();
        b.x.procedure(0, 0);
        b.x.body(1, b.loop(1, b.number(1), b.print(b.div(b.number(1), b.number(0)))));
        b.x.body(0, b.seq(b.print(b.number(4)), b.loop(1, b.number(1), b.print(b.add(b.number(3),
            b.call(0)))), b.print(b.number(5))));
        CHECK.run(b, "nothing is done behind it", 1, "4");
        CHECK.run(b, "and the next run starts anew", 1, "4");
        CHECK.due("DEPTH", b.x.ofRun(8), 2);
        CHECK.due("LIVE", b.x.ofRun(7), 2);
        CHECK.due("CALLS", b.x.ofRun(5), 2);
    }

    private static void limits() {
        CHECK.says("limits: MOST from now on; DEEP; Returns MOST before. most is not 1 to 3000, or "
            + "deep is not 1 to 40");
        StaticLink x = new StaticLink();
        CHECK.due("the first", x.limits(1, 1), 1000);
        CHECK.due("MOST", x.many(8), 1);
        CHECK.due("DEEP", x.many(9), 1);
        CHECK.due("the greatest", x.limits(3000, 40), 1);
        CHECK.due("MOST", x.many(8), 3000);
        CHECK.due("DEEP", x.many(9), 40);
        int[] wrongMost = {0, 3001, -1, MOST, LEAST};
        for (int most : wrongMost) {
            CHECK.argument("most " + most, () -> x.limits(most, 1));
        }
        int[] wrongDeep = {0, 41, -1, MOST, LEAST};
        for (int deep : wrongDeep) {
            CHECK.argument("deep " + deep, () -> x.limits(1, deep));
        }
        CHECK.due("MOST, as before", x.limits(7, 8), 3000);
        CHECK.due("DEEP", x.many(9), 8);
    }

    private static void run() {
        CHECK.says("run: Returns the TRAP; 0 without one. Throws IllegalStateException if there "
            + "are FAULTS");
        Build b = new Build();
        CHECK.state("without a BODY", () -> b.x.run());
        b.x.body(0, b.print(b.number(1)));
        CHECK.due("run()", b.x.run(), 0);
        b.x.procedure(0, 1);
        CHECK.state("another one is without a BODY", () -> b.x.run());
        b.x.body(1, b.print(b.use(9)));
        CHECK.state("a NODE has a FAULT, that would never be begun", () -> b.x.run());
        CHECK.due("runs", b.x.ofRun(10), 1);
        b.x.body(1, b.print(b.number(2)));
        CHECK.due("run()", b.x.run(), 0);
        CHECK.due("runs", b.x.ofRun(10), 2);
    }

    private static void ofRun() {
        CHECK.says("of the latest run: 0 its TRAP (0), 1 the NODE of that (NONE), 2 the PROCEDURE "
            + "that this was IN (NONE), 3 STEPS, 4 how many numbers were PRINTED, 5 CALLS (how "
            + "many FRAMES began, that of MAIN, too), 6 CELLS, 7 the most that were LIVE, 8 the "
            + "most DEPTH, 9 what MAIN gave (0 with a TRAP); or 10 how many runs there were ever");
        Build b = new Build();
        b.x.variable(0, 0, 0, 0);
        b.x.procedure(0, 1);
        b.x.variable(1, 2, 0, 0);
        b.x.passes(0);
        int div = b.div(b.number(1), b.number(0));
        b.x.body(1, b.print(div));
        b.x.body(0, b.seq(b.print(b.number(5)), b.print(b.call(1)), b.give(b.number(3))));
        for (int k = 1; k <= 3; k++) {
            CHECK.due("run()", b.x.run(), 1);
            CHECK.due("ofRun", b.ofRun(), "1 " + div + " 1 10 1 2 2 2 2 0");
            CHECK.due("runs", b.x.ofRun(10), k);
        }
        // What is changed behind it changes nothing of the latest run.
        b.x.body(1, b.leave(0));
        b.x.passes(7);
        b.x.limits(1, 1);
        CHECK.due("ofRun", b.ofRun(), "1 " + div + " 1 10 1 2 2 2 2 0");
        CHECK.due("printed", b.printed(), "5");
        b.x.limits(1000, 20);
        b.x.body(1, b.give(b.number(4)));
        CHECK.due("run()", b.x.run(), 0);
        CHECK.due("ofRun", b.ofRun(), "0 -1 -1 10 2 2 0 2 2 3");
        CHECK.due("runs", b.x.ofRun(10), 4);
    }

    private static void ofRunAheadOfAll() {
        CHECK.says("0 ahead of all runs (all of them)");
        Build b = new Build();
        b.x.body(0, b.print(b.div(b.number(1), b.number(0))));
        b.x.wouldRun(1000, 20, 0);
        b.x.with(0, 1);
        b.x.digest();
        for (int what = 0; what <= 10; what++) {
            CHECK.due("ofRun(" + what + ")", b.x.ofRun(what), 0);
        }
        int[] wrong = {-1, 11, MOST, LEAST};
        for (int what : wrong) {
            CHECK.argument("ofRun(" + what + ")", () -> b.x.ofRun(what));
        }
        CHECK.due("run()", b.x.run(), 1);
        CHECK.due("runs", b.x.ofRun(10), 1);
    }

    private static void mainGave() {
        CHECK.says("9 what MAIN gave (0 with a TRAP)");
        Build b = new Build();
        b.x.body(0, b.give(b.number(999)));
        CHECK.due("run()", b.x.run(), 0);
        CHECK.due("it gave", b.x.ofRun(9), 999);
        b.x.limits(1, 1);
        CHECK.due("run()", b.x.run(), 6);
        CHECK.due("a TRAP behind a run that gave something", b.x.ofRun(9), 0);
        b.x.limits(2, 1);
        CHECK.due("run()", b.x.run(), 0);
        CHECK.due("it gave", b.x.ofRun(9), 999);
        CHECK.due("wouldRun", b.x.wouldRun(1, 1, 9), 0);
        CHECK.due("wouldRun", b.x.wouldRun(2, 1, 9), 999);
        CHECK.due("wouldRun", b.x.wouldRun(1, 1, 9), 0);
        b.x.body(0, b.print(b.number(1)));
        b.x.run();
        CHECK.due("without RETURN", b.x.ofRun(9), 0);
    }

    private static void printed() {
        CHECK.says("printed: k: a number, from 0 (the first 50 are kept); 0 the number that was "
            + "PRINTED as this one in the latest run, 1 how many STEPS there were by then, 2 the "
            + "PRINT");
        int[] all = {0, 1, 49, 50, 51, 60};
        for (int many : all) {
            Build b = new Build();
            b.x.variable(0, 0, 0, 0);
            int print = b.print(b.use(0));
            b.x.body(0, b.loop(0, b.less(b.use(0), b.number(many)), b.seq(print, b.count(0))));
            CHECK.due("run()", b.x.run(), 0);
            CHECK.due("how many", b.x.ofRun(4), many);
            int kept = Math.min(50, many);
            for (int k = 0; k < kept; k++) {
                CHECK.due("printed(" + k + ", 0)", b.x.printed(k, 0), k);
                // LOOP; each turn LESS, USE, NUMBER, SEQ, PRINT, USE, SET, ADD, USE, NUMBER.
                CHECK.due("printed(" + k + ", 1)", b.x.printed(k, 1), 1 + 10 * k + 6);
                CHECK.due("printed(" + k + ", 2)", b.x.printed(k, 2), print);
            }
            int[] none = {-1, kept, kept + 1, 50, MOST, LEAST};
            for (int k : none) {
                CHECK.bounds("printed(" + k + ", 0)", () -> b.x.printed(k, 0));
            }
            double sum = 0;
            for (int k = 0; k < many; k++) {
                sum += k;
            }
            CHECK.due("the mean, of those that are not kept, too", b.x.meanPrinted(),
                many == 0 ? 0.0 : sum / many);
        }
        Build c = new Build();
        c.x.body(0, c.seq(c.print(c.number(1)), c.print(c.number(2))));
        c.x.run();
        int second = c.print(c.number(3));
        c.x.body(0, second);
        CHECK.due("of the latest run yet", c.x.printed(1, 0), 2);
        c.x.run();
        CHECK.due("of the latest run", c.x.printed(0, 0), 3);
        CHECK.due("its PRINT", c.x.printed(0, 2), second);
        CHECK.bounds("not of the one before", () -> c.x.printed(1, 0));
        int[] wrong = {-1, 3, MOST, LEAST};
        for (int what : wrong) {
            CHECK.argument("printed(0, " + what + ")", () -> c.x.printed(0, what));
        }
    }

    private static void meanPrinted() {
        CHECK.says("Returns the mean of all numbers that were PRINTED in the latest run (their sum "
            + "does not go round), not cut; 0 without any");
        CHECK.due("ahead of all runs", new StaticLink().meanPrinted(), 0.0);
        int[][] rows = {{1}, {1, 2}, {-1, -2}, {1, 1, 2}, {-7, 3, 5, 0}, {0, 0}, {999, -999}};
        for (int[] row : rows) {
            Build b = new Build();
            int[] prints = new int[row.length];
            double sum = 0;
            for (int k = 0; k < row.length; k++) {
                prints[k] = b.print(b.number(row[k]));
                sum += row[k];
            }
            b.x.body(0, b.seq(prints));
            b.x.run();
            CHECK.due("the mean of " + row.length, b.x.meanPrinted(), sum / row.length);
        }
        for (int sign = 0; sign <= 1; sign++) {
            Build b = new Build();
            b.x.variable(0, 0, 0, 0);
            b.x.variable(0, 1, 0, 0);
            int least = b.mul(b.mul(b.number(512), b.number(512)), b.mul(b.number(512),
                b.number(16)));
            b.x.body(0, b.seq(b.set(0, b.sub(least, b.number(sign))),
                b.loop(0, b.less(b.use(1), b.number(100)), b.seq(b.count(1), b.print(b.use(0))))));
            b.x.limits(3000, 1);
            CHECK.due("run()", b.x.run(), 0);
            CHECK.due("how many", b.x.ofRun(4), 100);
            CHECK.due("the sum does not go round", b.x.meanPrinted(),
                sign == 0 ? (double) LEAST : (double) MOST);
        }
        Build c = new Build();
        c.x.body(0, c.seq(c.print(c.number(5)), c.print(c.div(c.number(1), c.number(0)))));
        CHECK.due("run()", c.x.run(), 1);
        CHECK.due("of a run with a TRAP", c.x.meanPrinted(), 5.0);
        c.x.wouldRun(1, 1, 0);
        CHECK.due("of the latest run alone", c.x.meanPrinted(), 5.0);
        c.x.limits(1, 1);
        c.x.run();
        CHECK.due("none", c.x.meanPrinted(), 0.0);
    }
}
