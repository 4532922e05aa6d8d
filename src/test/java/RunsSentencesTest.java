/**
 * The sentences of section 4, and those of promises 13 to 17, that name a boundary: each one
 * stands ahead of its checks. What is refused stands in RefusalsTest, too.
 */
public final class RunsSentencesTest {
    private static final Check CHECK = new Check("RunsSentencesTest");
    private static final int MOST = Integer.MAX_VALUE;
    private static final int LEAST = Integer.MIN_VALUE;

    public static void main(String[] args) {
        itCallsMain();
        newFrame();
        linkedToTheFrame();
        whatReturnGave();
        leftToRight();
        value();
        ref();
        refOfAt();
        byName();
        copyAndArray();
        proc();
        variablesOutlive();
        lessIfLoop();
        placesOfArrays();
        innermostLoop();
        nearestProcedure();
        framesCalledFromThere();
        goingOnFromItsFirstB();
        goingOnTillItEnds();
        goingOnTillItsFrameEnds();
        loopsOfAnEarlierRun();
        whatIsATail();
        frameOfATail();
        tailEndsItsOwnLoopsAlone();
        CHECK.end();
    }

    private static void itCallsMain() {
        CHECK.says("It CALLS MAIN");
        Build b = new Build();
        b.x.body(0, b.give(b.number(-7)));
        CHECK.run(b, "MAIN alone", 0, "");
        CHECK.due("ofRun", b.ofRun(), "0 -1 -1 2 0 1 0 1 1 -7");
    }

    private static void newFrame() {
        CHECK.says("a new FRAME, with all that it declares");
        // As many PLACES as there can be, in two PROCEDURES INSIDE each other.
        Build b = new Build();
        for (int p = 1; p <= 2; p++) {
            b.x.procedure(p - 1, 15);
            for (int k = 0; k < 4; k++) {
                b.x.parameter(p, k, 0);
            }
            for (int k = 4; k < 10; k++) {
                b.x.variable(p, k, k % 2, k % 2 == 1 ? 8 : 0);
            }
        }
        int all = b.number(0);
        for (int k = 0; k < 9; k += k < 4 ? 1 : 2) {
            all = b.add(b.mul(all, b.number(3)), b.use(k));
        }
        b.x.body(2, b.seq(b.set(4, b.use(0)), b.set(8, b.number(2)),
            b.store(9, b.number(7), b.number(1)), b.give(all)));
        b.x.body(1, b.seq(b.set(8, b.number(7)), b.store(9, b.number(7), b.number(8)),
            b.print(b.call(15, b.number(1), b.use(1), b.number(1), b.use(3))), b.print(b.use(4)),
            b.print(b.use(8)), b.print(b.at(9, b.number(7)))));
        b.x.body(0, b.perform(b.call(15, b.number(0), b.number(2), b.number(0), b.number(2))));
        // 1, 2, 1, 2 are handed on; 1 is SET at first, 0 stays, and 2 at last.
        int want = (((((1 * 3 + 2) * 3 + 1) * 3 + 2) * 3 + 1) * 3 + 0) * 3 + 2;
        CHECK.run(b, "ten PLACES", 0, want + " 0 7 8");
        b.x.passes(0);
        b.x.run();
        CHECK.due("CELLS", b.x.ofRun(6), 20);
    }

    private static void linkedToTheFrame() {
        CHECK.says("linked to the FRAME of its PARENT in which it was named or taken");
        Build b = new Build();
        b.x.variable(0, 0, 2, 0);
        b.x.procedure(0, 1);
        b.x.parameter(1, 2, 0);
        b.x.procedure(1, 3);
        b.x.body(2, b.give(b.use(2)));
        // Taken in the FRAME with 2, named in each: the one with 1, the one with 0.
        b.x.body(1, b.seq(b.when(b.less(b.number(1), b.use(2)), b.keep(0, b.taken(3)), -1),
            b.when(b.use(2), b.perform(b.call(1, b.sub(b.use(2), b.number(1)))), -1),
            b.print(b.call(3)), b.print(b.call(0))));
        b.x.body(0, b.perform(b.call(1, b.number(2))));
        CHECK.run(b, "named and taken", 0, "0 2 1 2 2 2");
    }

    private static void whatReturnGave() {
        CHECK.says("the CALL gives what RETURN gave, otherwise 0");
        Build b = new Build();
        b.x.procedure(0, 0);
        b.x.parameter(1, 1, 0);
        b.x.body(1, b.when(b.use(1), b.seq(b.give(b.add(b.use(1), b.number(4))),
            b.print(b.number(99))), -1));
        b.x.body(0, b.seq(b.print(b.call(0, b.number(1))), b.print(b.call(0, b.number(0))),
            b.print(b.call(0, b.number(-4))),
            b.give(b.sub(b.call(0, b.number(0)), b.number(1)))));
        CHECK.run(b, "RETURN", 0, "5 0 0");
        CHECK.due("MAIN gave", b.x.ofRun(9), -1);
        b.x.body(0, b.perform(b.call(0, b.number(7))));
        CHECK.run(b, "no RETURN", 0, "");
        CHECK.due("MAIN gave", b.x.ofRun(9), 0);
    }

    private static void leftToRight() {
        CHECK.says("All is done from left to right: ARGUMENTS first to last, b ahead of c");
        Build b = new Build();
        b.x.variable(0, 0, 1, 8);
        b.x.procedure(0, 1);
        for (int k = 0; k < 4; k++) {
            b.x.parameter(1, 2 + k, 0);
        }
        b.x.procedure(0, 6);
        b.x.parameter(2, 7, 0);
        b.x.body(2, b.seq(b.print(b.use(7)), b.give(b.use(7))));
        b.x.body(1, b.give(b.sub(b.mul(b.use(2), b.use(3)), b.mul(b.use(4), b.use(5)))));
        int[] handed = new int[4];
        for (int k = 0; k < 4; k++) {
            handed[k] = b.call(6, b.number(2 + k));
        }
        // What stands left of a CALL with ARGUMENTS is kept under these.
        b.body(0, b.print(b.sub(b.number(100), b.call(1, handed))),
            b.store(0, b.call(6, b.number(3)), b.call(6, b.number(8))),
            b.print(b.sub(b.call(6, b.at(0, b.number(3))), b.call(6, b.number(5)))));
        CHECK.run(b, "ARGUMENTS, b and c", 0, "2 3 4 5 114 3 8 8 5 3");
    }

    private static void value() {
        CHECK.says("VALUE: the number");
        Build b = new Build();
        b.x.variable(0, 0, 0, 0);
        b.x.procedure(0, 1);
        b.x.parameter(1, 2, 0);
        b.body(1, b.set(0, b.number(9)), b.print(b.use(2)), b.set(2, b.number(3)),
            b.print(b.use(2)), b.print(b.use(0)));
        b.body(0, b.set(0, b.number(5)), b.perform(b.call(1, b.use(0))), b.print(b.use(0)));
        CHECK.run(b, "VALUE", 0, "5 3 9 9");
    }

    private static void ref() {
        CHECK.says("REF: the VARIABLE itself (that of a REF is that for which it stands)");
        Build b = new Build();
        b.x.variable(0, 0, 0, 0);
        b.x.procedure(0, 1);
        b.x.parameter(1, 2, 1);
        b.x.parameter(1, 3, 1);
        b.x.procedure(0, 4);
        b.x.parameter(2, 5, 1);
        b.x.parameter(2, 6, 0);
        b.body(1, b.set(2, b.add(b.use(2), b.number(1))), b.print(b.use(3)), b.print(b.use(0)));
        b.body(2, b.perform(b.call(1, b.use(5), b.use(5))), b.perform(b.call(1, b.use(6),
            b.use(6))), b.print(b.use(6)));
        b.body(0, b.set(0, b.number(7)), b.perform(b.call(1, b.use(0), b.use(0))),
            b.perform(b.call(4, b.use(0), b.number(40))), b.print(b.use(0)));
        CHECK.run(b, "REF, a REF of a REF, of a VALUE", 0, "8 8 9 9 41 9 41 9");
    }

    private static void refOfAt() {
        CHECK.says("of an AT the array and the place, that are found, or trap, as the ARGUMENT is "
            + "reached");
        int[] outside = {-1, 2, 999};
        for (int k : outside) {
            Build b = forRefs();
            int at = b.at(1, b.number(k));
            b.body(0, b.perform(b.call(2, b.call(6, b.number(1)), at, b.call(6, b.number(2)))));
            CHECK.run(b, "a place " + k, 2, "1");
            CHECK.due("its NODE", b.x.ofRun(1), at);
            CHECK.due("its PROCEDURE", b.x.ofRun(2), 0);
            CHECK.due("CALLS: that of the first ARGUMENT alone", b.x.ofRun(5), 2);
        }
        Build b = forRefs();
        b.body(0, b.set(0, b.number(1)),
            b.perform(b.call(2, b.number(5), b.at(1, b.use(0)), b.call(6, b.number(2)))),
            b.print(b.at(1, b.number(0))), b.print(b.at(1, b.number(1))));
        CHECK.run(b, "the place is that of then", 0, "2 0 8");
    }

    private static Build forRefs() {
        Build b = new Build();
        b.x.variable(0, 0, 0, 0);
        b.x.variable(0, 1, 1, 2);
        b.x.procedure(0, 2);
        b.x.parameter(1, 3, 0);
        b.x.parameter(1, 4, 1);
        b.x.parameter(1, 5, 0);
        b.x.procedure(0, 6);
        b.x.parameter(2, 7, 0);
        b.body(1, b.set(0, b.number(0)), b.set(4, b.number(8)));
        b.body(2, b.set(0, b.number(0)), b.print(b.use(7)));
        return b;
    }

    private static void byName() {
        CHECK.says("BY NAME: the EXPRESSION, that is reckoned anew each time it is used, in the "
            + "FRAME from which it was CALLED");
        for (int used = 0; used <= 3; used++) {
            Build b = new Build();
            b.x.variable(0, 0, 0, 0);
            b.x.procedure(0, 1);
            b.x.parameter(1, 2, 2);
            b.x.variable(1, 0, 0, 0);
            b.x.procedure(0, 3);
            b.body(2, b.count(0), b.print(b.use(0)), b.give(b.number(7)));
            int all = b.number(0);
            for (int k = 0; k < used; k++) {
                all = b.add(all, b.use(2));
            }
            b.body(1, b.set(0, b.number(50)), b.print(all));
            b.body(0, b.perform(b.call(1, b.add(b.call(3), b.use(0)))), b.print(b.use(0)));
            // Each time the CALL counts; and what it adds is MAIN's VARIABLE, not the other one.
            CHECK.run(b, "used " + used + " times", 0,
                new String[] {"0 0", "1 8 1", "1 2 17 2", "1 2 3 27 3"}[used]);
        }
        Build c = new Build();
        c.x.procedure(0, 1);
        c.x.parameter(1, 2, 2);
        c.x.parameter(1, 3, 0);
        int div = c.div(c.number(1), c.number(0));
        c.body(1, c.print(c.number(4)), c.when(c.use(3), c.print(c.use(2)), -1));
        c.body(0, c.perform(c.call(1, c.number(1), c.number(0))),
            c.perform(c.call(1, div, c.number(0))),
            c.perform(c.call(1, c.sub(c.number(3), c.number(1)), c.number(1))));
        CHECK.run(c, "what is not used does not trap", 0, "4 4 4 2");
        int used = c.div(c.number(1), c.number(0));
        c.body(0, c.perform(c.call(1, used, c.number(1))));
        CHECK.run(c, "what is used does", 1, "4");
        CHECK.due("its NODE", c.x.ofRun(1), used);
        CHECK.due("the PROCEDURE that this was IN", c.x.ofRun(2), 0);
    }

    private static void copyAndArray() {
        CHECK.says("COPY: a copy of the array; ARRAY: that itself");
        for (int size = 1; size <= 8; size++) {
            Build b = new Build();
            b.x.variable(0, 0, 1, size);
            b.x.procedure(0, 1);
            b.x.parameter(1, 2, 3);
            b.x.parameter(1, 3, 4);
            int last = size - 1;
            b.body(1, b.print(b.at(2, b.number(last))), b.store(2, b.number(last), b.number(6)),
                b.print(b.at(3, b.number(last))), b.store(3, b.number(last), b.number(7)),
                b.print(b.at(2, b.number(last))), b.print(b.at(0, b.number(last))));
            b.body(0, b.store(0, b.number(last), b.number(5)),
                b.perform(b.call(1, b.array(0), b.array(0))), b.print(b.at(0, b.number(last))));
            CHECK.run(b, "size " + size, 0, "5 5 6 7 7");
            b.body(1, b.print(b.at(2, b.number(size))));
            CHECK.run(b, "the COPY is no greater", 2, "");
            b.body(1, b.print(b.at(3, b.number(size))));
            CHECK.run(b, "nor the ARRAY", 2, "");
        }
    }

    private static void proc() {
        CHECK.says("PROC: what is TAKEN: a PROCEDURE with the FRAME to which it would be linked, "
            + "or EMPTY");
        Build b = new Build();
        b.x.variable(0, 0, 2, 0);
        b.x.variable(0, 1, 2, 0);
        b.x.procedure(0, 2);
        b.x.parameter(1, 3, 5);
        b.x.procedure(0, 4);
        b.body(2, b.print(b.number(8)));
        int call = b.call(3);
        b.body(1, b.print(b.number(1)), b.perform(call));
        b.body(0, b.perform(b.call(2, b.taken(4))), b.perform(b.call(2, b.taken(0))));
        CHECK.run(b, "EMPTY is handed on", 3, "1 8 1");
        CHECK.due("the CALL", b.x.ofRun(1), call);
        int again = b.call(1);
        b.body(0, b.keep(1, b.taken(4)), b.perform(b.call(1)), b.keep(1, b.taken(0)),
            b.perform(again));
        CHECK.run(b, "EMPTY is kept", 3, "8");
        CHECK.due("the CALL", b.x.ofRun(1), again);
    }

    private static void variablesOutlive() {
        CHECK.says("What is not in FRAMES any more is kept as long as somebody has it: VARIABLES "
            + "outlive their FRAME");
        Build b = new Build();
        b.x.variable(0, 0, 2, 0);
        b.x.variable(0, 1, 2, 0);
        b.x.procedure(0, 2);
        b.x.parameter(1, 3, 0);
        b.x.parameter(1, 4, 4);
        b.x.variable(1, 5, 1, 2);
        b.x.procedure(1, 6);
        b.x.procedure(0, 7);
        b.x.variable(3, 8, 1, 1);
        b.body(2, b.set(3, b.add(b.use(3), b.number(1))),
            b.store(4, b.number(0), b.add(b.at(4, b.number(0)), b.number(10))),
            b.store(5, b.number(1), b.add(b.at(5, b.number(1)), b.number(100))),
            b.print(b.add(b.use(3), b.add(b.at(4, b.number(0)), b.at(5, b.number(1))))));
        b.body(1, b.keep(0, b.taken(6)));
        b.body(3, b.perform(b.call(2, b.number(1), b.array(8))));
        b.body(0, b.perform(b.call(7)), b.keep(1, b.taken(0)), b.perform(b.call(7)),
            b.perform(b.call(0)), b.perform(b.call(1)), b.perform(b.call(1)),
            b.perform(b.call(0)));
        CHECK.run(b, "numbers and arrays of FRAMES that have ended", 0, "112 112 223 223");
    }

    private static void lessIfLoop() {
        CHECK.says("7 LESS (1 if b is less than c, otherwise 0); IF b is not 0, c; otherwise a; "
            + "LOOP: as long as b is not 0");
        int[][] rows = {{1, 2, 1}, {2, 2, 0}, {3, 2, 0}, {-1, 0, 1}, {0, -1, 0}, {-999, 999, 1}};
        for (int[] row : rows) {
            Build b = new Build();
            b.x.variable(0, 0, 0, 0);
            b.body(0, b.set(0, b.number(row[0])), b.print(b.less(b.use(0), b.number(row[1]))));
            CHECK.run(b, row[0] + " less than " + row[1], 0, row[2] + "");
        }
        int[] all = {0, 1, -1, 999, -999};
        for (int v : all) {
            Build b = new Build();
            b.body(0, b.when(b.number(v), b.print(b.number(1)), b.print(b.number(2))),
                b.when(b.number(v), b.print(b.number(3)), -1), b.print(b.number(4)));
            CHECK.run(b, "IF " + v, 0, v == 0 ? "2 4" : "1 3 4");
        }
        for (int turns = 0; turns <= 3; turns++) {
            Build b = new Build();
            b.x.variable(0, 0, 0, 0);
            // From -turns on, up to 0.
            b.body(0, b.set(0, b.number(-turns)), b.loop(9, b.use(0), b.seq(b.count(0),
                b.print(b.use(0)))), b.print(b.number(7)));
            CHECK.run(b, turns + " turns", 0,
                new String[] {"7", "0 7", "-1 0 7", "-2 -1 0 7"}[turns]);
        }
    }

    private static void placesOfArrays() {
        CHECK.says("2 a place that the array has not (from 0)");
        for (int k = -1; k <= 3; k++) {
            Build b = new Build();
            b.x.variable(0, 0, 1, 3);
            b.x.variable(0, 1, 1, 3);
            int at = b.at(0, b.number(k));
            boolean isThere = k >= 0 && k <= 2;
            b.x.body(0, b.print(at));
            CHECK.run(b, "AT " + k, isThere ? 0 : 2, isThere ? "0" : "");
            CHECK.due("its NODE", b.x.ofRun(1), isThere ? -1 : at);
            int store = b.store(0, b.number(k), b.number(7));
            b.body(0, store, b.print(b.at(0, b.number(isThere ? k : 0))),
                b.print(b.at(1, b.number(0))));
            CHECK.run(b, "STORE " + k, isThere ? 0 : 2, isThere ? "7 0" : "");
            CHECK.due("its NODE", b.x.ofRun(1), isThere ? -1 : store);
        }
        Build c = new Build();
        c.x.variable(0, 0, 1, 8);
        c.x.variable(0, 1, 0, 0);
        // 2^31 and the like are no places either.
        c.body(0, c.set(1, c.mul(c.mul(c.number(512), c.number(512)), c.mul(c.number(512),
            c.number(16)))), c.print(c.at(0, c.sub(c.use(1), c.number(1)))));
        CHECK.run(c, "the greatest int", 2, "");
        c.body(0, c.set(1, c.mul(c.mul(c.number(512), c.number(512)), c.mul(c.number(512),
            c.number(16)))), c.store(0, c.use(1), c.number(1)));
        CHECK.run(c, "the least int", 2, "");
    }

    private static void innermostLoop() {
        CHECK.says("BREAK with a LOOP of this LABEL around it in its PROCEDURE: the innermost one "
            + "ends");
        Build b = new Build();
        b.x.variable(0, 0, 0, 0);
        b.body(0, b.loop(1, b.less(b.use(0), b.number(2)), b.seq(b.count(0),
            b.loop(1, b.number(1), b.loop(2, b.number(1), b.leave(1))),
            b.print(b.use(0)))), b.print(b.number(9)));
        CHECK.run(b, "the one around it, not the one around that", 0, "1 2 9");
        b.body(0, b.loop(0, b.number(1), b.loop(9, b.number(1), b.seq(b.print(b.number(3)),
            b.leave(0)))), b.print(b.number(8)));
        CHECK.run(b, "LABELS 0 and 9", 0, "3 8");
    }

    private static void nearestProcedure() {
        CHECK.says("Otherwise: of the PROCEDURES that its own one is INSIDE, the nearest one in "
            + "whose BODY there is a LOOP with that LABEL; in its FRAME (by links) the innermost "
            + "LOOP with it that is GOING ON ends");
        Build b = new Build();
        b.x.procedure(0, 1);
        b.x.procedure(1, 2);
        b.x.procedure(2, 3);
        b.x.body(3, b.seq(b.loop(5, b.number(0), b.print(b.number(1))), b.leave(5)));
        b.x.body(2, b.seq(b.loop(6, b.number(1), b.perform(b.call(3))), b.print(b.number(2))));
        b.x.body(1, b.seq(b.loop(5, b.number(1), b.loop(5, b.number(1), b.seq(
            b.perform(b.call(2)), b.print(b.number(3))))), b.print(b.number(4))));
        b.x.body(0, b.loop(5, b.number(1), b.seq(b.perform(b.call(1)), b.leave(5))));
        b.x.limits(60, 40);
        // The inner one of the two ends; the outer one goes on, till the STEPS are too many.
        CHECK.due("run()", b.x.run(), 6);
        CHECK.due("nothing is printed behind it", b.x.ofRun(4), 0);
        b.x.body(1, b.seq(b.loop(5, b.number(1), b.seq(b.loop(5, b.number(1), b.seq(
            b.perform(b.call(2)), b.print(b.number(3)))), b.print(b.number(5)), b.leave(5))),
            b.print(b.number(4))));
        CHECK.run(b, "the innermost one", 0, "5 4");
        b.x.body(1, b.perform(b.call(2)));
        CHECK.run(b, "one further out, without any in between", 0, "");
        b.x.body(1, b.seq(b.loop(5, b.number(0), b.print(b.number(3))), b.perform(b.call(2))));
        CHECK.run(b, "the nearest one is not GOING ON", 5, "");
    }

    private static void framesCalledFromThere() {
        CHECK.says("ends, and all FRAMES that were CALLED from there");
        Build b = new Build();
        b.x.variable(0, 0, 0, 0);
        b.x.procedure(0, 1);
        b.x.parameter(1, 2, 0);
        b.x.procedure(0, 3);
        b.x.body(1, b.seq(b.loop(7, b.number(1), b.when(b.use(2),
            b.perform(b.call(1, b.sub(b.use(2), b.number(1)))), b.leave(0))),
            b.print(b.number(-1))));
        b.x.body(2, b.give(b.number(3)));
        b.body(0, b.loop(0, b.less(b.use(0), b.number(3)), b.loop(1, b.number(1),
            b.perform(b.call(1, b.number(5))))), b.print(b.add(b.call(3), b.call(3))));
        CHECK.run(b, "seven FRAMES deep", 0, "6");
        CHECK.due("DEPTH", b.x.ofRun(8), 7);
        CHECK.due("LIVE", b.x.ofRun(7), 7);
        // DEPTH is as before: what is CALLED behind it is not too deep.
        b.body(0, b.loop(0, b.number(1), b.perform(b.call(1, b.number(0)))),
            b.loop(0, b.number(1), b.perform(b.call(1, b.number(1)))), b.print(b.call(3)));
        b.x.limits(1000, 3);
        CHECK.run(b, "one after the other", 0, "3");
        CHECK.due("DEPTH", b.x.ofRun(8), 3);
        CHECK.due("LIVE", b.x.ofRun(7), 3);
    }

    private static void goingOnFromItsFirstB() {
        CHECK.says("A LOOP is GOING ON in a FRAME from its first b on");
        Build b = new Build();
        b.x.procedure(0, 1);
        int leave = b.leave(4);
        b.x.body(1, leave);
        b.body(0, b.loop(4, b.call(1), b.print(b.number(1))), b.print(b.number(2)));
        CHECK.run(b, "in its first b", 0, "2");
        b.body(0, b.perform(b.call(1)), b.loop(4, b.number(1), b.print(b.number(1))));
        CHECK.run(b, "not ahead of it", 5, "");
        CHECK.due("its NODE", b.x.ofRun(1), leave);
        CHECK.due("its PROCEDURE", b.x.ofRun(2), 1);
        b.body(0, b.loop(3, b.call(1), b.loop(4, b.number(1), b.print(b.number(1)))));
        CHECK.run(b, "not ahead of it, in another one", 5, "");
    }

    private static void goingOnTillItEnds() {
        CHECK.says("till it ends");
        // How the LOOP 4 ends: its b is 0; a BREAK of its own; one of a LOOP around it, in its
        // PROCEDURE or from another one.
        for (int how = 0; how <= 4; how++) {
            Build b = new Build();
            b.x.variable(0, 0, 0, 0);
            b.x.procedure(0, 1);
            b.x.procedure(0, 2);
            int leave = b.leave(4);
            b.x.body(1, leave);
            b.x.body(2, b.leave(5));
            int inner;
            switch (how) {
                case 0: inner = b.loop(4, b.less(b.use(0), b.number(2)), b.count(0)); break;
                case 1: inner = b.loop(4, b.number(1), b.leave(4)); break;
                case 2: inner = b.loop(4, b.number(1), b.leave(5)); break;
                case 3: inner = b.loop(4, b.number(1), b.perform(b.call(2))); break;
                default: inner = b.loop(4, b.number(1), b.perform(b.call(1))); break;
            }
            b.body(0, b.loop(5, b.number(1), b.seq(inner, b.leave(5))), b.print(b.number(1)),
                b.perform(b.call(1)));
            CHECK.run(b, "LOOP 4 has ended, " + how, 5, "1");
            CHECK.due("its NODE", b.x.ofRun(1), leave);
            // The same of the LOOP around it, with LABEL 5.
            int again = b.leave(5);
            b.x.body(1, again);
            b.body(0, b.loop(5, b.number(1), b.loop(4, b.number(1), b.leave(5))),
                b.print(b.number(2)), b.perform(b.call(1)));
            CHECK.run(b, "LOOP 5 has ended from INSIDE LOOP 4", 5, "2");
            CHECK.due("its NODE", b.x.ofRun(1), again);
        }
    }

    private static void goingOnTillItsFrameEnds() {
        CHECK.says("till it ends, or its FRAME does");
        Build b = new Build();
        b.x.variable(0, 0, 2, 0);
        b.x.procedure(0, 1);
        b.x.procedure(1, 2);
        int leave = b.leave(4);
        b.x.body(2, leave);
        b.body(1, b.keep(0, b.taken(2)), b.loop(4, b.number(1), b.give(b.number(5))));
        b.body(0, b.print(b.call(1)), b.loop(4, b.number(1), b.perform(b.call(0))));
        CHECK.run(b, "by RETURN, while one of another FRAME is GOING ON", 5, "5");
        CHECK.due("its NODE", b.x.ofRun(1), leave);
        b.x.procedure(0, 3);
        b.x.body(3, b.leave(6));
        b.body(1, b.keep(0, b.taken(2)), b.loop(4, b.number(1), b.perform(b.call(3))));
        b.body(0, b.loop(6, b.number(1), b.perform(b.call(1))), b.print(b.number(3)),
            b.perform(b.call(0)));
        CHECK.run(b, "by a BREAK of the LOOP from which it was CALLED", 5, "3");
        CHECK.due("its NODE", b.x.ofRun(1), leave);
    }

    private static void loopsOfAnEarlierRun() {
        CHECK.says("its FRAME does; TRAPS end a run");
        Build b = new Build();
        b.x.procedure(0, 1);
        int leave = b.leave(3);
        b.x.body(1, leave);
        b.body(0, b.loop(3, b.number(1), b.print(b.number(1))));
        b.x.limits(10, 40);
        CHECK.due("a run that ends in the LOOP", b.x.run(), 6);
        b.body(0, b.perform(b.call(1)), b.loop(3, b.number(1), b.print(b.number(1))));
        CHECK.run(b, "the LOOP of that run is not GOING ON", 5, "");
        CHECK.due("its NODE", b.x.ofRun(1), leave);
    }

    private static void tail(String what, int want, Build b, int n) {
        CHECK.due("TAIL: " + what, b.x.ofNode(n, 6), want);
    }

    private static void whatIsATail() {
        CHECK.says("A RETURN is a TAIL, if b is a CALL of a PROCEDURE whose PARAMETERS are all "
            + "VALUES, and that is not INSIDE its own one, and of its own PROCEDURE nothing "
            + "ESCAPES (section 5), and it is not MAIN");
        for (int mode = 0; mode <= 5; mode++) {
            for (int place = 0; place <= 3; place++) {
                Build b = new Build();
                b.x.procedure(0, 1);
                b.x.procedure(0, 2);
                for (int k = 0; k < 4; k++) {
                    b.x.parameter(2, 3 + k, k == place ? mode : 0);
                }
                int give = b.give(b.call(2, b.number(1), b.number(2), b.number(3), b.number(4)));
                b.x.body(1, give);
                tail("PARAMETER " + place + " is of MODE " + mode, mode == 0 ? 1 : 0, b, give);
            }
        }
        Build b = new Build();
        b.x.variable(0, 9, 2, 0);
        b.x.procedure(0, 1);
        b.x.procedure(1, 2);
        b.x.procedure(2, 3);
        b.x.procedure(1, 4);
        int[] all = {b.give(b.call(1)), b.give(b.call(2)), b.give(b.call(3)), b.give(b.call(4)),
            b.give(b.call(9)), b.give(b.number(1)), b.give(b.add(b.number(1), b.call(1)))};
        String[] due = {"0000000", "1000000", "1101000", "1111000"};
        for (int p = 0; p <= 3; p++) {
            b.x.body(p, b.leave(0));
        }
        for (int p = 0; p <= 3; p++) {
            for (int k = 0; k < all.length; k++) {
                b.x.body(p, all[k]);
                tail("from " + p + ", " + k, due[p].charAt(k) - '0', b, all[k]);
                tail("the CALL is none", 0, b, b.x.ofNode(all[k], 2));
            }
            b.x.body(p, b.leave(0));
        }
        nothingEscapes();
    }

    private static void nothingEscapes() {
        // Of the own PROCEDURE: that something of the one around it ESCAPES does not count.
        for (int which = 0; which <= 2; which++) {
            Build b = new Build();
            b.x.variable(0, 9, 2, 0);
            b.x.procedure(0, 1);
            b.x.variable(1, 5, 0, 0);
            b.x.procedure(1, 2);
            b.x.variable(2, 6, 0, 0);
            b.x.procedure(2, 3);
            int give = b.give(b.call(1));
            b.x.body(2, b.seq(b.keep(9, b.taken(3)), give));
            b.x.body(3, b.print(which == 0 ? b.number(1) : b.use(4 + which)));
            tail("what ESCAPES is " + which, which == 2 ? 0 : 1, b, give);
        }
    }

    private static void frameOfATail() {
        CHECK.says("The FRAME of a TAIL has ended as soon as its ARGUMENTS are reckoned");
        for (int passes = 0; passes <= 7; passes++) {
            Build b = new Build();
            b.x.passes(passes);
            b.x.variable(0, 0, 2, 0);
            b.x.procedure(0, 1);
            b.x.procedure(1, 2);
            b.x.procedure(0, 3);
            b.x.parameter(3, 4, 0);
            int leave = b.leave(8);
            b.x.body(2, leave);
            b.x.body(3, b.seq(b.print(b.number(6)), b.perform(b.call(0))));
            b.body(1, b.keep(0, b.taken(2)), b.loop(8, b.number(1), b.give(b.call(3,
                b.call(2)))), b.print(b.number(5)));
            b.body(0, b.perform(b.call(1)));
            CHECK.run(b, "in an ARGUMENT it has not ended, PASSES " + passes, 0, "5");
            b.body(1, b.keep(0, b.taken(2)), b.loop(8, b.number(1), b.give(b.call(3,
                b.number(1)))), b.print(b.number(5)));
            CHECK.run(b, "behind them it has, PASSES " + passes, 5, "6");
            CHECK.due("its NODE", b.x.ofRun(1), leave);
        }
    }

    private static void tailEndsItsOwnLoopsAlone() {
        CHECK.says("The FRAME of a TAIL has ended; A LOOP is GOING ON in a FRAME till it ends, or "
            + "its FRAME does");
        for (int passes = 0; passes <= 7; passes++) {
            Build b = new Build();
            b.x.passes(passes);
            b.x.procedure(0, 1);
            b.x.procedure(0, 2);
            b.x.body(1, b.loop(3, b.number(1), b.give(b.call(2))));
            b.x.body(2, b.seq(b.print(b.number(1)), b.leave(7), b.print(b.number(2))));
            b.body(0, b.loop(7, b.number(1), b.perform(b.call(1))), b.print(b.number(3)));
            CHECK.run(b, "MAIN's LOOP goes on, PASSES " + passes, 0, "1 3");
        }
    }
}
