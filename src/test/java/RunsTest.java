/** Promises 13 to 17: limits, run, ofRun, printed, meanPrinted; and section 4. */
public final class RunsTest {
    private static final Check CHECK = new Check("RunsTest");

    public static void main(String[] args) {
        limits();
        refusals();
        simple();
        arithmetic();
        arrays();
        modes();
        arraysHandedOn();
        leftToRight();
        procs();
        outliving();
        loops();
        farBreaks();
        breakOfWhatEnded();
        tails();
        tailsEndTheirLoops();
        traps();
        behindATrap();
        trapsOfCalls();
        steps();
        printing();
        CHECK.end();
    }

    private static void limits() {
        StaticLink x = new StaticLink();
        CHECK.due("limits", x.limits(3000, 40), 1000);
        CHECK.due("limits", x.limits(1, 1), 3000);
        int[][] wrong = {{0, 1}, {3001, 1}, {1, 0}, {1, 41}, {-1, -1}, {Integer.MAX_VALUE, 1}};
        for (int[] w : wrong) {
            CHECK.argument("limits(" + w[0] + ", " + w[1] + ")", () -> x.limits(w[0], w[1]));
        }
        CHECK.due("MOST", x.many(8), 1);
        CHECK.due("DEEP", x.many(9), 1);
    }

    private static void refusals() {
        Build b = new Build();
        CHECK.state("run with FAULTS", () -> b.x.run());
        b.body(0, b.give(b.number(3)));
        CHECK.run(b, "RETURN in MAIN", 0, "");
        b.x.procedure(0, 1);
        CHECK.state("run with FAULTS", () -> b.x.run());
        CHECK.due("of the run before", b.ofRun(), "0 -1 -1 2 0 1 0 1 1 3");
        CHECK.due("runs", b.x.ofRun(10), 1);
        CHECK.argument("ofRun(11)", () -> b.x.ofRun(11));
        CHECK.argument("ofRun(-1)", () -> b.x.ofRun(-1));
    }

    private static void simple() {
        Build b = new Build();
        b.x.variable(0, 0, 0, 0);
        b.x.variable(0, 1, 3, 9);
        b.body(0, b.print(b.use(0)), b.set(0, b.use(1)), b.print(b.use(0)),
            b.when(b.less(b.use(0), b.number(9)), b.print(b.number(1)), b.print(b.number(2))),
            b.when(b.number(-3), b.print(b.number(3)), b.print(b.number(4))),
            b.when(b.number(0), b.print(b.number(5)), -1));
        CHECK.run(b, "SET, IF", 0, "0 9 2 3");
        CHECK.due("ofRun", b.ofRun(), "0 -1 -1 23 4 1 0 1 1 0");
    }

    private static void arithmetic() {
        Build b = new Build();
        b.x.variable(0, 0, 0, 0);
        int big = b.mul(b.mul(b.number(999), b.number(999)), b.mul(b.number(999), b.number(999)));
        b.body(0, b.set(0, big), b.print(b.use(0)), b.print(b.div(b.number(-7), b.number(2))),
            b.print(b.div(b.number(7), b.number(-2))), b.print(b.less(b.number(1), b.number(1))),
            b.print(b.sub(b.number(1), b.number(3))),
            b.print(b.less(b.use(0), b.add(b.use(0), b.number(1)))));
        CHECK.run(b, "arithmetic", 0, (999 * 999 * 999 * 999) + " -3 -3 0 -2 1");
        Build c = new Build();
        c.x.variable(0, 0, 0, 0);
        // Doubled 31 times, 1 is the least int: it is its own opposite.
        c.x.variable(0, 1, 0, 0);
        c.body(0, c.set(0, c.number(1)),
            c.loop(0, c.less(c.use(1), c.number(31)),
                c.seq(c.count(1), c.set(0, c.add(c.use(0), c.use(0))))),
            c.print(c.use(0)), c.print(c.div(c.use(0), c.number(-1))));
        CHECK.run(c, "the least int", 0, "-2147483648 -2147483648");
    }

    private static void arrays() {
        Build b = new Build();
        b.x.variable(0, 0, 1, 3);
        b.x.variable(0, 1, 1, 1);
        b.body(0, b.store(0, b.number(2), b.number(7)), b.store(1, b.number(0), b.number(5)),
            b.print(b.at(0, b.number(2))), b.print(b.at(0, b.number(0))),
            b.print(b.at(1, b.number(0))));
        CHECK.run(b, "arrays", 0, "7 0 5");
        int[] outside = {-1, 3, 999, -999};
        for (int k : outside) {
            int at = b.at(0, b.number(k));
            b.x.body(0, b.print(at));
            CHECK.run(b, "AT outside", 2, "");
            CHECK.due("its NODE", b.x.ofRun(1), at);
            CHECK.due("its PROCEDURE", b.x.ofRun(2), 0);
        }
        int store = b.store(1, b.number(1), b.div(b.number(1), b.number(0)));
        b.x.body(0, store);
        CHECK.run(b, "the trap in c comes first", 1, "");
        store = b.store(1, b.number(1), b.number(1));
        b.x.body(0, store);
        CHECK.run(b, "STORE outside", 2, "");
        CHECK.due("its NODE", b.x.ofRun(1), store);
        CHECK.due("the STEPS: b and c, too", b.x.ofRun(3), 3);
    }

    private static void modes() {
        Build b = new Build();
        b.x.variable(0, 0, 0, 0);
        b.x.variable(0, 1, 1, 2);
        b.x.procedure(0, 2);
        b.x.parameter(1, 3, 0);
        b.x.parameter(1, 4, 1);
        b.x.parameter(1, 5, 1);
        b.x.parameter(1, 6, 2);
        b.x.procedure(0, 7);
        b.x.parameter(2, 8, 1);
        b.body(2, b.set(8, b.add(b.use(8), b.number(10))));
        b.body(1, b.set(3, b.number(50)), b.print(b.use(3)), b.print(b.use(6)),
            b.set(4, b.number(1)), b.print(b.use(0)), b.set(5, b.number(8)),
            b.print(b.use(6)), b.perform(b.call(7, b.use(4))), b.perform(b.call(7, b.use(3))),
            b.print(b.use(4)), b.print(b.use(3)));
        // The array's place is found with the 0 of then; BY NAME with what is there each time.
        b.body(0, b.perform(b.call(2, b.use(0), b.use(0), b.at(1, b.use(0)),
            b.add(b.at(1, b.number(0)), b.use(0)))),
            b.print(b.use(0)), b.print(b.at(1, b.number(0))), b.print(b.at(1, b.number(1))));
        CHECK.run(b, "VALUE, REF, BY NAME", 0, "50 0 1 9 11 60 11 8 0");
    }

    private static void arraysHandedOn() {
        Build b = new Build();
        b.x.variable(0, 0, 1, 2);
        b.x.procedure(0, 1);
        b.x.parameter(1, 2, 3);
        b.x.parameter(1, 3, 4);
        b.x.procedure(0, 4);
        b.x.parameter(2, 5, 4);
        b.body(2, b.store(5, b.number(0), b.add(b.at(5, b.number(0)), b.number(1))));
        b.body(1, b.perform(b.call(4, b.array(2))), b.perform(b.call(4, b.array(3))),
            b.print(b.at(2, b.number(0))), b.print(b.at(3, b.number(0))),
            b.print(b.at(0, b.number(0))), b.print(b.at(3, b.number(2))));
        b.body(0, b.store(0, b.number(0), b.number(5)),
            b.perform(b.call(1, b.array(0), b.array(0))));
        CHECK.run(b, "COPY, ARRAY", 2, "6 6 6");
        Build c = new Build();
        c.x.variable(0, 0, 1, 2);
        c.x.procedure(0, 1);
        c.x.parameter(1, 2, 3);
        c.x.parameter(1, 3, 0);
        c.x.procedure(0, 4);
        c.body(2, c.store(0, c.number(1), c.number(9)));
        c.body(1, c.print(c.at(2, c.number(1))), c.store(2, c.number(1), c.number(4)));
        c.body(0, c.perform(c.call(1, c.array(0), c.call(4))), c.print(c.at(0, c.number(1))));
        CHECK.run(c, "the copy is made as it is handed on", 0, "0 9");
    }

    private static void leftToRight() {
        Build b = new Build();
        b.x.variable(0, 0, 0, 0);
        b.x.procedure(0, 1);
        b.x.procedure(0, 2);
        b.x.parameter(2, 3, 0);
        b.x.parameter(2, 4, 0);
        b.x.parameter(2, 5, 0);
        b.body(1, b.count(0), b.give(b.use(0)));
        b.body(2, b.print(b.sub(b.use(3), b.mul(b.use(4), b.use(5)))));
        b.body(0, b.print(b.sub(b.use(0), b.call(1))), b.print(b.sub(b.call(1), b.use(0))),
            b.perform(b.call(2, b.call(1), b.call(1), b.call(1))),
            b.print(b.sub(b.mul(b.call(1), b.number(100)), b.call(1))));
        CHECK.run(b, "left to right", 0, "-1 0 -17 593");
    }

    private static void procs() {
        Build b = new Build();
        b.x.variable(0, 0, 2, 0);
        b.x.variable(0, 1, 2, 0);
        b.x.procedure(0, 2);
        b.x.parameter(1, 3, 0);
        b.x.procedure(0, 4);
        b.x.parameter(2, 5, 5);
        b.body(1, b.give(b.mul(b.use(3), b.use(3))));
        // What was handed on stays, though the variable is set anew.
        b.body(2, b.keep(0, b.taken(1)), b.print(b.call(5, b.number(7))),
            b.print(b.call(0, b.number(7))));
        int call = b.call(0, b.number(7));
        b.body(0, b.keep(0, b.taken(2)), b.perform(b.call(4, b.taken(0))), b.print(b.number(1)));
        CHECK.run(b, "PROC, then EMPTY", 3, "49");
        CHECK.due("PROCEDURE of the TRAP", b.x.ofRun(2), 2);
        b.body(0, b.print(call));
        CHECK.run(b, "EMPTY at first", 3, "");
        CHECK.due("the CALL", b.x.ofRun(1), call);
        CHECK.due("behind its ARGUMENTS", b.x.ofRun(3), 4);
        int two = b.call(0, b.number(1), b.number(2));
        b.body(0, b.keep(0, b.taken(2)), b.print(two));
        CHECK.run(b, "too many ARGUMENTS", 4, "");
        CHECK.due("the CALL", b.x.ofRun(1), two);
        CHECK.due("no FRAME began", b.x.ofRun(5), 1);
        b.body(0, b.keep(0, b.taken(2)), b.print(b.call(0)));
        CHECK.run(b, "too few ARGUMENTS", 4, "");
    }

    // A PROCEDURE that was taken keeps the FRAME of its PARENT, each its own one.
    private static void outliving() {
        Build b = new Build();
        b.x.variable(0, 0, 2, 0);
        b.x.variable(0, 1, 2, 0);
        b.x.procedure(0, 2);
        b.x.parameter(1, 3, 0);
        b.x.parameter(1, 4, 2);
        b.x.procedure(1, 5);
        b.body(2, b.set(3, b.add(b.use(3), b.use(4))), b.give(b.use(3)));
        b.body(1, b.keep(0, b.taken(5)));
        b.x.procedure(0, 6);
        b.x.variable(3, 7, 0, 0);
        b.body(3, b.set(7, b.number(5)), b.perform(b.call(2, b.number(100), b.use(7))),
            b.set(7, b.number(6)));
        b.body(0, b.perform(b.call(6)), b.keep(1, b.taken(0)), b.perform(b.call(6)),
            b.print(b.call(0)), b.print(b.call(0)), b.print(b.call(1)), b.print(b.call(0)));
        CHECK.run(b, "FRAMES that are kept", 0, "106 112 106 118");
        CHECK.due("FRAMES", b.x.ofRun(5), 9);
        CHECK.due("CELLS: what ESCAPES", b.x.ofRun(6), 4);
        CHECK.due("CELLS: all", b.x.with(0, 1), 2 + 2 * 1 + 2 * 2);
    }

    private static void loops() {
        Build b = new Build();
        b.x.variable(0, 0, 0, 0);
        b.body(0,
            b.loop(1, b.number(1), b.seq(b.count(0),
                b.loop(1, b.number(1), b.seq(b.print(b.use(0)), b.leave(1))),
                b.when(b.less(b.number(2), b.use(0)), b.leave(1), -1))),
            b.loop(2, b.number(1), b.seq(b.count(0),
                b.loop(3, b.number(1), b.leave(2)))),
            b.print(b.use(0)));
        CHECK.run(b, "BREAK of the innermost, and of an outer one", 0, "1 2 3 4");
        Build c = new Build();
        c.x.procedure(0, 1);
        c.body(1, c.loop(0, c.number(1), c.loop(1, c.number(1), c.give(c.number(4)))));
        c.body(0, c.print(c.add(c.number(3), c.call(1))));
        CHECK.run(c, "RETURN in LOOPS", 0, "7");
    }

    private static void farBreaks() {
        Build b = new Build();
        b.x.variable(0, 0, 0, 0);
        b.x.procedure(0, 1);
        b.x.variable(1, 2, 0, 0);
        b.x.procedure(1, 3);
        b.x.parameter(2, 4, 0);
        // Of the FRAME by links: the inner one is CALLED five deep, and ends all of them.
        b.body(2, b.when(b.use(4), b.perform(b.call(3, b.sub(b.use(4), b.number(1)))), b.leave(5)),
            b.print(b.number(-1)));
        b.body(1, b.count(0), b.when(b.less(b.use(0), b.number(3)), b.perform(b.call(1)), -1),
            b.loop(5, b.number(1), b.seq(b.count(2),
                b.loop(6, b.number(1),
                    b.print(b.add(b.number(1), b.call(3, b.number(5))))))),
            b.print(b.use(2)));
        b.body(0, b.loop(5, b.number(1), b.seq(b.perform(b.call(1)), b.leave(5))),
            b.print(b.number(9)));
        CHECK.run(b, "BREAK over FRAMES", 0, "1 1 1 9");
        CHECK.due("DEPTH", b.x.ofRun(8), 10);
        CHECK.due("LIVE", b.x.ofRun(7), 10);

        Build c = new Build();
        c.x.variable(0, 0, 0, 0);
        c.x.procedure(0, 1);
        c.body(1, c.leave(2));
        c.body(0, c.loop(2, c.call(1), c.print(c.number(1))), c.print(c.number(2)));
        CHECK.run(c, "GOING ON from its first b on", 0, "2");

        // What is BY NAME is reckoned far in, and the BREAK ends all up to its LOOP.
        Build d = new Build();
        d.x.procedure(0, 1);
        d.x.parameter(1, 2, 2);
        d.x.procedure(0, 3);
        d.x.procedure(0, 4);
        d.body(1, d.loop(7, d.number(1), d.print(d.use(2))), d.print(d.number(-1)));
        d.body(2, d.leave(7));
        d.body(3, d.print(d.number(-2)));
        d.body(0, d.loop(7, d.number(1), d.perform(d.call(1, d.add(d.number(1), d.call(3))))),
            d.print(d.number(5)));
        CHECK.run(d, "BREAK out of what is BY NAME", 0, "5");
    }

    private static void breakOfWhatEnded() {
        Build b = new Build();
        b.x.variable(0, 0, 2, 0);
        b.x.procedure(0, 1);
        b.x.procedure(1, 2);
        int leave = b.leave(3);
        b.body(2, leave);
        b.body(1, b.loop(3, b.number(1), b.seq(b.keep(0, b.taken(2)), b.leave(3))),
            b.print(b.number(1)), b.perform(b.call(2)));
        b.body(0, b.loop(3, b.number(1), b.perform(b.call(1))));
        CHECK.run(b, "its LOOP has ended; one further out does not count", 5, "1");
        CHECK.due("the BREAK", b.x.ofRun(1), leave);
        CHECK.due("its PROCEDURE", b.x.ofRun(2), 2);
        CHECK.due("MAIN gave", b.x.ofRun(9), 0);
        b.body(1, b.loop(3, b.number(1), b.seq(b.keep(0, b.taken(2)), b.give(b.number(0)))));
        b.body(0, b.perform(b.call(1)), b.print(b.number(2)), b.perform(b.call(0)));
        CHECK.run(b, "its FRAME has ended", 5, "2");
        otherFrame();
    }

    // A LOOP that is GOING ON in another FRAME of the same PROCEDURE is another one.
    private static void otherFrame() {
        Build b = new Build();
        b.x.variable(0, 0, 2, 0);
        b.x.procedure(0, 1);
        b.x.parameter(1, 2, 0);
        b.x.procedure(1, 3);
        b.body(2, b.leave(3));
        b.body(1, b.when(b.use(2), b.keep(0, b.taken(3)), -1),
            b.loop(3, b.sub(b.number(1), b.use(2)), b.perform(b.call(0))),
            b.print(b.number(6)));
        b.body(0, b.perform(b.call(1, b.number(1))), b.perform(b.call(1, b.number(0))));
        CHECK.run(b, "the LOOP of another FRAME", 5, "6");
    }

    private static void tails() {
        Build b = new Build();
        b.x.procedure(0, 1);
        b.x.parameter(1, 2, 0);
        b.x.parameter(1, 3, 0);
        b.body(1, b.when(b.use(2), b.give(b.call(1, b.sub(b.use(2), b.number(1)),
            b.add(b.use(3), b.use(2)))), b.give(b.use(3))));
        b.body(0, b.print(b.call(1, b.number(10), b.number(0))),
            b.print(b.call(1, b.number(2), b.number(0))));
        CHECK.run(b, "TAILS", 0, "55 3");
        CHECK.due("DEPTH", b.x.ofRun(8), 12);
        CHECK.due("LIVE", b.x.ofRun(7), 2);
        CHECK.due("FRAMES", b.x.ofRun(5), 15);
        b.x.passes(5);
        CHECK.run(b, "without TAIL", 0, "55 3");
        CHECK.due("DEPTH", b.x.ofRun(8), 12);
        CHECK.due("LIVE", b.x.ofRun(7), 12);
        b.x.passes(2);
        b.x.limits(1000, 11);
        CHECK.run(b, "a TAIL ends no CALL", 7, "");
        CHECK.due("LIVE at the TRAP", b.x.ofRun(7), 2);
        CHECK.due("DEPTH at the TRAP", b.x.ofRun(8), 11);
        CHECK.due("CELLS", b.x.ofRun(6), 20);
    }

    // The FRAME of a TAIL has ended, and its LOOPS with it, whatever PASSES are on.
    private static void tailsEndTheirLoops() {
        Build b = new Build();
        b.x.variable(0, 0, 2, 0);
        b.x.procedure(0, 1);
        b.x.procedure(1, 2);
        b.x.procedure(0, 3);
        int leave = b.leave(4);
        b.body(2, leave);
        b.body(1, b.keep(0, b.taken(2)),
            b.loop(4, b.number(1), b.give(b.call(3))), b.print(b.number(1)));
        b.body(3, b.print(b.number(7)), b.perform(b.call(0)), b.print(b.number(8)));
        b.body(0, b.perform(b.call(1)));
        for (int passes = 0; passes <= 7; passes++) {
            b.x.passes(passes);
            CHECK.run(b, "PASSES " + passes, 5, "7");
            CHECK.due("the BREAK", b.x.ofRun(1), leave);
            CHECK.due("LIVE", b.x.ofRun(7), (passes & 2) != 0 ? 3 : 4);
        }
        b.body(1, b.keep(0, b.taken(2)),
            b.loop(4, b.number(1), b.give(b.add(b.number(0), b.call(3)))), b.print(b.number(1)));
        CHECK.run(b, "no TAIL", 0, "7 1");
    }

    private static void traps() {
        Build b = new Build();
        b.x.procedure(0, 0);
        int div = b.div(b.number(3), b.number(0));
        b.body(1, b.print(b.number(4)), b.give(div));
        b.body(0, b.give(b.add(b.number(1), b.call(0))));
        CHECK.run(b, "DIV by 0", 1, "4");
        CHECK.due("ofRun", b.ofRun(), "1 " + div + " 1 " + "11 1 2 0 2 2 0");
        Build c = new Build();
        int turn = c.number(1);
        c.body(0, c.loop(0, turn, c.print(c.number(2))));
        c.x.limits(7, 1);
        CHECK.run(c, "STEPS", 6, "2 2");
        CHECK.due("the NODE that would be begun", c.x.ofRun(1), turn);
        CHECK.due("STEPS", c.x.ofRun(3), 7);
        c.x.limits(8, 1);
        CHECK.run(c, "STEPS", 6, "2 2");
        CHECK.due("the PRINT would be begun", c.x.ofRun(1), turn + 2);
        c.x.limits(1, 1);
        CHECK.run(c, "STEPS", 6, "");
        CHECK.due("ofRun", c.ofRun(), "6 " + turn + " 0 1 0 1 0 1 1 0");
    }

    private static void behindATrap() {
        Build b = new Build();
        b.x.variable(0, 0, 0, 0);
        b.x.procedure(0, 1);
        b.body(1, b.loop(0, b.number(1), b.print(b.div(b.number(7), b.use(0)))));
        b.body(0, b.set(0, b.number(0)), b.give(b.add(b.number(3), b.call(1))));
        CHECK.run(b, "a TRAP far in", 1, "");
        b.x.body(1, b.give(b.number(4)));
        CHECK.run(b, "a run behind it", 0, "");
        CHECK.due("MAIN gave", b.x.ofRun(9), 7);
        CHECK.due("ofRun", b.ofRun(), "0 -1 -1 9 0 2 0 2 2 7");
    }

    private static void trapsOfCalls() {
        Build b = new Build();
        b.x.variable(0, 0, 2, 0);
        b.x.procedure(0, 1);
        b.x.parameter(1, 2, 0);
        b.body(1, b.print(b.number(1)));
        int call = b.call(1, b.div(b.number(1), b.number(0)));
        b.body(0, b.perform(call));
        b.x.limits(100, 1);
        CHECK.run(b, "7 comes behind the ARGUMENTS", 1, "");
        call = b.call(1, b.number(1));
        b.body(0, b.perform(call));
        CHECK.run(b, "DEPTH", 7, "");
        CHECK.due("ofRun", b.ofRun(), "7 " + call + " 0 4 0 1 0 1 1 0");
        b.body(0, b.perform(b.call(0)));
        CHECK.run(b, "3 comes ahead of 7", 3, "");
        b.body(0, b.keep(0, b.taken(1)), b.perform(b.call(0)));
        CHECK.run(b, "4 comes ahead of 7", 4, "");
        call = b.call(0, b.number(1));
        b.body(0, b.keep(0, b.taken(1)), b.perform(call));
        CHECK.run(b, "7 of a PROC", 7, "");
        CHECK.due("its NODE", b.x.ofRun(1), call);
        // A PROC is looked at behind its ARGUMENTS, that may SET it.
        b.x.procedure(0, 3);
        b.body(2, b.keep(0, b.taken(1)));
        b.body(0, b.perform(b.call(0, b.call(3))));
        b.x.limits(100, 2);
        CHECK.run(b, "a PROC that its ARGUMENT keeps", 0, "1");
    }

    private static void steps() {
        Build b = new Build();
        b.x.variable(0, 0, 0, 0);
        b.x.variable(0, 1, 1, 2);
        b.x.variable(0, 2, 2, 0);
        b.x.procedure(0, 3);
        b.x.parameter(1, 4, 1);
        b.x.parameter(1, 5, 1);
        b.x.parameter(1, 6, 2);
        b.x.parameter(1, 7, 0);
        b.x.procedure(0, 8);
        b.x.parameter(2, 9, 3);
        b.x.parameter(2, 10, 4);
        b.x.parameter(2, 11, 5);
        b.x.procedure(0, 12);
        b.x.body(3, b.print(b.number(0)));
        b.x.body(2, b.print(b.number(0)));
        b.x.body(1, b.print(b.number(0)));
        b.x.body(0, b.perform(b.call(3, b.use(0), b.at(1, b.number(0)),
            b.add(b.number(1), b.number(1)), b.number(3))));
        // DO, CALL; ARGUMENT, USE; ARGUMENT, AT, NUMBER; ARGUMENT; ARGUMENT, NUMBER; PRINT, NUMBER
        CHECK.run(b, "REF and BY NAME", 0, "0");
        CHECK.due("STEPS", b.x.ofRun(3), 12);
        b.x.body(1, b.print(b.add(b.use(6), b.use(6))));
        // Instead of NUMBER: ADD, and twice USE, ADD, NUMBER, NUMBER.
        CHECK.run(b, "BY NAME, twice", 0, "4");
        CHECK.due("STEPS", b.x.ofRun(3), 20);
        b.x.body(0, b.perform(b.call(8, b.array(1), b.array(1), b.taken(12))));
        // DO, CALL; ARGUMENT, ARRAY NAME; the same; ARGUMENT, TAKEN; PRINT, NUMBER
        CHECK.run(b, "ARRAY NAME and TAKEN", 0, "0");
        CHECK.due("STEPS", b.x.ofRun(3), 10);
        b.body(0, b.keep(2, b.taken(12)), b.loop(0, b.less(b.use(0), b.number(2)), b.count(0)));
        // SEQ, KEEP, TAKEN, LOOP; thrice LESS, USE, NUMBER; twice SET, ADD, USE, NUMBER
        CHECK.run(b, "a LOOP is begun once", 0, "");
        CHECK.due("STEPS", b.x.ofRun(3), 21);
        CHECK.due("STEPS, whatever PASSES", b.x.with(7, 1), 0);
    }

    private static void printing() {
        Build b = new Build();
        b.x.variable(0, 0, 0, 0);
        int big = b.mul(b.mul(b.number(999), b.number(999)), b.number(999));
        int print = b.print(big);
        b.body(0, b.loop(0, b.less(b.use(0), b.number(60)), b.seq(print, b.count(0))));
        CHECK.due("run()", b.x.run(), 0);
        CHECK.due("printed", b.x.ofRun(4), 60);
        CHECK.due("the last one that is kept", b.x.printed(49, 0), 997002999);
        // LOOP; then each turn LESS, USE, NUMBER, SEQ, PRINT, 5 of b, SET, ADD, USE, NUMBER.
        CHECK.due("its STEPS", b.x.printed(49, 1), 1 + 49 * 14 + 10);
        CHECK.due("its PRINT", b.x.printed(49, 2), print);
        CHECK.due("the first one", b.x.printed(0, 1), 11);
        CHECK.bounds("printed(50, 0)", () -> b.x.printed(50, 3));
        CHECK.bounds("printed(-1, 0)", () -> b.x.printed(-1, 0));
        CHECK.argument("printed, what 3", () -> b.x.printed(0, 3));
        CHECK.argument("printed, what -1", () -> b.x.printed(49, -1));
        CHECK.due("the mean: the sum does not go round", b.x.meanPrinted(), 997002999.0);
        b.body(0, b.print(b.number(2)), b.print(b.number(-5)));
        CHECK.due("of the latest run yet", b.x.meanPrinted(), 997002999.0);
        CHECK.run(b, "PRINT", 0, "2 -5");
        CHECK.due("the mean is not cut", b.x.meanPrinted(), -1.5);
        CHECK.bounds("printed(2, 0)", () -> b.x.printed(2, 0));
        b.body(0, b.set(0, b.number(1)));
        CHECK.run(b, "no PRINT", 0, "");
        CHECK.due("no mean", b.x.meanPrinted(), 0.0);
        CHECK.due("runs", b.x.ofRun(10), 3);
    }
}
