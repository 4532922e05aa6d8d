import java.util.ArrayList;
import java.util.List;

/**
 * The "Throws" lines of all promises, and "A method that throws an exception changes nothing. If
 * several exceptions apply, the one that is named first is thrown." Each refused call is made on
 * an object of its own; another object, that was built likewise, is never asked that; then both
 * have to answer, and to go on, alike.
 */
public final class RefusalsTest {
    private static final Check CHECK = new Check("RefusalsTest");
    private static final int MOST = Integer.MAX_VALUE;
    private static final int LEAST = Integer.MIN_VALUE;
    private static final int BOUNDS = 1;
    private static final int ARGUMENT = 2;
    private static final int STATE = 3;
    private static final int[] FAR = {-1, MOST, LEAST};

    /** A call on the object that is handed to it. */
    interface Call {
        void make(StaticLink x);
    }

    /** How an object is built, ahead of the refused call. */
    interface State {
        StaticLink build();
    }

    private final State state;
    private final String where;
    private int refused = 0;

    private RefusalsTest(String where, State state) {
        this.where = where;
        this.state = state;
    }

    public static void main(String[] args) {
        CHECK.says("A method that throws an exception changes nothing. If several exceptions "
            + "apply, the one that is named first is thrown");
        RefusalsTest right = new RefusalsTest("without FAULTS", RefusalsTest::right);
        right.states();
        right.declarations();
        right.nodes();
        right.questions();
        right.runs();
        RefusalsTest faulty = new RefusalsTest("with FAULTS", RefusalsTest::faulty);
        faulty.withFaults();
        RefusalsTest full = new RefusalsTest("full", RefusalsTest::full);
        full.fullOfAll();
        RefusalsTest fresh = new RefusalsTest("new", StaticLink::new);
        fresh.newObject();
        CHECK.due("there were refused calls", right.refused > 200 && faulty.refused > 20
            && full.refused > 10 && fresh.refused > 10 ? 1 : 0, 1);
        CHECK.end();
    }

    // ---- the states

    // PROCEDURES 0 to 2; NODES IN none: 0 and 1 NUMBERS, 2 and 3 BREAKS, 4 a CALL, 5 a TAKEN, 6 an
    // ARRAY NAME, 7 a NUMBER in 8, an ARGUMENT, and 9, in 10; and a program that has been run.
    static StaticLink right() {
        Build b = new Build();
        StaticLink x = b.x;
        b.number(1);
        b.number(2);
        b.leave(1);
        b.leave(2);
        b.call(7);
        b.taken(7);
        b.array(1);
        b.x.node(9, 0, b.number(3), -1);
        b.give(b.number(4));
        x.variable(0, 0, 0, 0);
        x.variable(0, 1, 1, 3);
        x.variable(0, 2, 2, 0);
        x.variable(0, 3, 3, 50);
        x.procedure(0, 4);
        x.parameter(1, 5, 0);
        x.variable(1, 6, 0, 0);
        x.procedure(1, 7);
        x.body(2, b.print(b.use(6)));
        x.body(1, b.seq(b.set(6, b.use(5)), b.perform(b.call(7)), b.keep(2, b.taken(7))));
        x.body(0, b.seq(b.perform(b.call(4, b.add(b.number(2), b.number(3)))),
            b.perform(b.call(2)), b.give(b.use(3))));
        x.limits(500, 7);
        x.passes(5);
        x.run();
        return x;
    }

    // The same with FAULTS, behind its run: 3 is without a BODY, 4 has two BREAKS and a NAME.
    static StaticLink faulty() {
        StaticLink x = right();
        x.procedure(0, 8);
        x.procedure(0, 9);
        int n = x.many(1);
        x.node(1, 15, 0, 0);
        x.node(19, 0, n, 0);
        x.node(12, 0, n + 1, 3);
        x.body(4, n + 2);
        return x;
    }

    // 10 PROCEDURES, 4 PARAMETERS, 6 VARIABLES, 110 NODES.
    static StaticLink full() {
        Build b = new Build();
        StaticLink x = b.x;
        for (int k = 0; k < 9; k++) {
            x.procedure(0, k);
        }
        for (int k = 0; k < 4; k++) {
            x.parameter(1, k, 0);
        }
        for (int k = 0; k < 6; k++) {
            x.variable(2, k, 0, 0);
        }
        for (int p = 0; p <= 9; p++) {
            x.body(p, b.print(b.number(p)));
        }
        for (int k = 0; k < 45; k++) {
            b.print(b.number(k));
        }
        x.run();
        return x;
    }

    // What the states have to be, for that is what the calls are chosen for.
    private void states() {
        StaticLink x = right();
        CHECK.due("FAULTS", x.many(3), 0);
        CHECK.due("runs", x.ofRun(10), 1);
        CHECK.due("TRAP", x.ofRun(0), 0);
        CHECK.due("how many are PRINTED", x.ofRun(4), 2);
        for (int n = 0; n <= 8; n++) {
            CHECK.due("IN none", x.ofNode(n, 4), -1);
        }
        StaticLink y = faulty();
        CHECK.due("FAULTS", y.many(3), 3);
        StaticLink z = full();
        CHECK.due("NODES", z.many(1), 110);
        CHECK.due("PROCEDURES", z.many(0), 10);
        goOn(x);
        CHECK.due("runs, as it goes on", x.ofRun(10), 2);
        CHECK.due("PROCEDURES, as it goes on", x.many(0), 4);
    }

    // ---- the comparison

    private void refused(int due, String call, Call made) {
        refused++;
        StaticLink x = state.build();
        StaticLink other = state.build();
        String what = where + ", " + call;
        if (due == BOUNDS) {
            CHECK.bounds(what, () -> made.make(x));
        } else if (due == ARGUMENT) {
            CHECK.argument(what, () -> made.make(x));
        } else {
            CHECK.state(what, () -> made.make(x));
        }
        CHECK.due(what + ", changed something", answers(x), answers(other));
        goOn(x);
        goOn(other);
        CHECK.due(what + ", changed what comes", answers(x), answers(other));
    }

    /** What is asked of it, and is not in the digest, with that. */
    private static String answers(StaticLink x) {
        StringBuilder all = new StringBuilder();
        all.append(x.digest()).append(' ').append(x.meanPrinted());
        for (int p = 0; p < Math.min(3, x.many(0)); p++) {
            for (int name = 0; name <= 15; name++) {
                all.append(' ').append(x.ofName(p, name, 3)).append(' ')
                    .append(x.ofName(p, name, 4));
            }
            for (int name = 8; name <= 15; name++) {
                all.append(' ').append(x.hiddenBy(p, name));
            }
        }
        for (int n = 0; n < Math.min(12, x.many(1)); n++) {
            for (int what = 0; what <= 3; what++) {
                all.append(' ').append(x.ofNode(n, what));
            }
        }
        return all.toString();
    }

    /** A call that may be refused, in both objects alike. */
    private static void attempt(StaticLink x, Call call) {
        try {
            call.make(x);
        } catch (IllegalStateException e) {
            // So it is in the other object.
        }
    }

    // All that a refused call could have taken: numbers, NAMES, PLACES, parts.
    private static void goOn(StaticLink x) {
        boolean isFree = x.many(1) > 11 && x.many(1) < 100 && x.ofNode(2, 0) == 17;
        if (isFree) {
            int n = x.many(1);
            x.node(8, 4, 8, 0);
            x.node(19, 0, n, 0);
            x.node(3, 0, 0, 1);
            x.node(16, 1, n + 2, 2);
            x.node(12, 0, n + 3, n + 1);
            x.node(21, 2, 5, 0);
            x.node(12, 0, n + 4, n + 5);
            x.body(2, n + 6);
            x.node(20, 0, 4, 0);
            x.node(9, 0, 6, -1);
        }
        attempt(x, y -> y.run());
        int last = x.many(0) - 1;
        attempt(x, y -> y.procedure(last, 14));
        attempt(x, y -> y.parameter(last, 13, 1));
        attempt(x, y -> y.variable(last, 12, 1, 4));
        attempt(x, y -> y.variable(0, 11, 0, 0));
    }

    // ---- promises 2 to 6

    private void declarations() {
        int[] none = {-1, 3, 10, MOST, LEAST};
        int[] names = {-1, 16, MOST, LEAST};
        for (int p : none) {
            refused(BOUNDS, "procedure(" + p + ", 15)", x -> x.procedure(p, 15));
            refused(BOUNDS, "procedure(" + p + ", 16)", x -> x.procedure(p, 16));
            refused(BOUNDS, "parameter(" + p + ", 15, 0)", x -> x.parameter(p, 15, 0));
            refused(BOUNDS, "parameter(" + p + ", 16, 6)", x -> x.parameter(p, 16, 6));
            refused(BOUNDS, "variable(" + p + ", 15, 0, 0)", x -> x.variable(p, 15, 0, 0));
            refused(BOUNDS, "variable(" + p + ", 16, 4, 9)", x -> x.variable(p, 16, 4, 9));
            refused(BOUNDS, "ofName(" + p + ", 0, 0)", x -> x.ofName(p, 0, 0));
            refused(BOUNDS, "ofName(" + p + ", 16, 5)", x -> x.ofName(p, 16, 5));
            refused(BOUNDS, "ofProcedure(" + p + ", 0)", x -> x.ofProcedure(p, 0));
            refused(BOUNDS, "ofProcedure(" + p + ", 8)", x -> x.ofProcedure(p, 8));
            refused(BOUNDS, "hiddenBy(" + p + ", 0)", x -> x.hiddenBy(p, 0));
            refused(BOUNDS, "hiddenBy(" + p + ", 16)", x -> x.hiddenBy(p, 16));
        }
        for (int name : names) {
            refused(ARGUMENT, "procedure(0, " + name + ")", x -> x.procedure(0, name));
            refused(ARGUMENT, "parameter(2, " + name + ", 0)", x -> x.parameter(2, name, 0));
            refused(ARGUMENT, "parameter(0, " + name + ", 0), MAIN",
                x -> x.parameter(0, name, 0));
            refused(ARGUMENT, "variable(2, " + name + ", 0, 0)",
                x -> x.variable(2, name, 0, 0));
            refused(ARGUMENT, "ofName(0, " + name + ", 0)", x -> x.ofName(0, name, 0));
            refused(ARGUMENT, "hiddenBy(0, " + name + ")", x -> x.hiddenBy(0, name));
        }
        int[] modes = {-1, 6, MOST, LEAST};
        for (int mode : modes) {
            refused(ARGUMENT, "parameter(2, 9, " + mode + ")", x -> x.parameter(2, 9, mode));
            refused(ARGUMENT, "parameter(0, 0, " + mode + "), MAIN, a NAME that it has",
                x -> x.parameter(0, 0, mode));
        }
        refused(STATE, "parameter(0, 9, 0), MAIN", x -> x.parameter(0, 9, 0));
        refused(STATE, "parameter(1, 9, 0), it has a VARIABLE", x -> x.parameter(1, 9, 0));
        refused(STATE, "parameter(1, 5, 0), its NAME", x -> x.parameter(1, 5, 0));
        for (int name = 0; name <= 4; name++) {
            int taken = name;
            refused(STATE, "procedure(0, " + name + ")", x -> x.procedure(0, taken));
            refused(STATE, "variable(0, " + name + ", 0, 0)", x -> x.variable(0, taken, 0, 0));
        }
        variables();
    }

    private void variables() {
        int[][] wrong = {{4, 0}, {-1, 0}, {MOST, 0}, {LEAST, 0}, {0, 1}, {0, -1}, {1, 0}, {1, 9},
            {1, -1}, {2, 1}, {2, -1}, {3, 100}, {3, -100}, {3, MOST}, {3, LEAST}, {1, MOST}};
        for (int[] w : wrong) {
            refused(ARGUMENT, "variable(2, 9, " + w[0] + ", " + w[1] + ")",
                x -> x.variable(2, 9, w[0], w[1]));
            refused(ARGUMENT, "variable(0, 0, " + w[0] + ", " + w[1] + "), a NAME that it has",
                x -> x.variable(0, 0, w[0], w[1]));
        }
        int[] whats = {-1, 5, MOST, LEAST};
        for (int what : whats) {
            refused(ARGUMENT, "ofName(0, 0, " + what + ")", x -> x.ofName(0, 0, what));
            refused(ARGUMENT, "ofName(0, 15, " + what + "), unbound",
                x -> x.ofName(0, 15, what));
        }
        int[] more = {-1, 8, MOST, LEAST};
        for (int what : more) {
            refused(ARGUMENT, "ofProcedure(0, " + what + ")", x -> x.ofProcedure(0, what));
        }
    }

    // ---- promises 7 to 10

    private void nodes() {
        int[][] wrong = {{-1, 0, 0, 0}, {22, 0, 0, 0}, {0, 1000, 0, 0}, {0, -1000, 0, 0},
            {0, 0, 1, 0}, {1, 16, 0, 0}, {2, 0, 2, 0}, {2, 0, 0, 1}, {3, 1, 0, 1}, {3, 0, 0, 0},
            {3, 0, 0, 2}, {3, 0, 2, 1}, {8, 4, 0, 0}, {8, 4, -1, 1}, {8, 4, 7, 0}, {9, 0, 2, -1},
            {9, 0, 0, 1}, {9, 0, 0, 0}, {9, 1, 0, 8}, {10, 0, -1, 0}, {12, 0, 2, 2},
            {12, 0, 2, 0}, {12, 0, 0, 2}, {12, 5, 2, 3}, {13, 0, 2, 0}, {13, 16, 0, 0},
            {13, 0, 0, 1}, {14, 0, 0, 0}, {14, 0, 0, 2}, {14, 0, 2, 0}, {14, 16, 0, 1},
            {15, 2, 0, 2}, {15, 1, 0, 2}, {15, 2, 3, 2}, {15, 2, 0, 1}, {15, -2, 0, 2},
            {16, 10, 0, 2}, {16, -1, 0, 2}, {16, 0, 2, 3}, {16, 0, 0, 1}, {17, 10, 0, 0},
            {17, 0, 0, 1}, {18, 0, 2, 0}, {18, 0, 0, 1}, {18, 1, 0, 0}, {19, 0, 7, 0},
            {20, 0, 0, 0}, {20, 0, 5, 0}, {20, 0, 4, 1}, {20, 1, 4, 0}, {21, 2, 4, 0},
            {21, 16, 5, 0}, {21, 2, 5, 1}, {3, 0, 0, 99}, {3, 0, 99, 0}, {12, 0, 2, 99},
            {12, 0, 99, 2}, {15, 99, 0, 2}, {9, 0, 0, 99}, {3, 0, 0, MOST}, {3, 0, LEAST, 0}};
        for (int[] w : wrong) {
            refused(ARGUMENT, "node(" + w[0] + ", " + w[1] + ", " + w[2] + ", " + w[3] + ")",
                x -> x.node(w[0], w[1], w[2], w[3]));
        }
        int[] none = {-1, 110, MOST, LEAST};
        for (int n : none) {
            refused(BOUNDS, "body(0, " + n + ")", x -> x.body(0, n));
            refused(BOUNDS, "body(3, " + n + ")", x -> x.body(3, n));
            refused(BOUNDS, "ofNode(" + n + ", 0)", x -> x.ofNode(n, 0));
            refused(BOUNDS, "ofNode(" + n + ", 8)", x -> x.ofNode(n, 8));
        }
        refused(BOUNDS, "body(0, just behind the last)", x -> x.body(0, x.many(1)));
        refused(BOUNDS, "ofNode(just behind the last, 0)", x -> x.ofNode(x.many(1), 0));
        refused(BOUNDS, "body(3, 2), no such PROCEDURE", x -> x.body(3, 2));
        refused(BOUNDS, "body(-1, 0), that is no STATEMENT either", x -> x.body(-1, 0));
        int[] expressions = {0, 4, 5, 6, 8};
        for (int n : expressions) {
            refused(ARGUMENT, "body(1, " + n + ")", x -> x.body(1, n));
        }
        refused(ARGUMENT, "body(1, 7), that is part of a NODE", x -> x.body(1, 7));
        refused(STATE, "body(2, its own BODY)", x -> x.body(2, x.ofProcedure(2, 6)));
        refused(STATE, "body(2, the BODY of MAIN)", x -> x.body(2, x.ofProcedure(0, 6)));
        refused(STATE, "body(2, part of a BODY)",
            x -> x.body(2, x.ofNode(x.ofProcedure(0, 6), 2)));
        int[] whats = {-1, 8, MOST, LEAST};
        for (int what : whats) {
            refused(ARGUMENT, "ofNode(0, " + what + ")", x -> x.ofNode(0, what));
        }
        refused(BOUNDS, "fault(0, 0), there is none", x -> x.fault(0, 0));
        refused(BOUNDS, "fault(0, 3)", x -> x.fault(0, 3));
        refused(BOUNDS, "fault(-1, 0)", x -> x.fault(-1, 0));
    }

    // ---- promises 11, 12 and 18 to 21

    private void questions() {
        int[] passes = {-1, 8, MOST, LEAST};
        for (int p : passes) {
            refused(ARGUMENT, "passes(" + p + ")", x -> x.passes(p));
            refused(ARGUMENT, "with(" + p + ", 0)", x -> x.with(p, 0));
            refused(ARGUMENT, "with(" + p + ", 3)", x -> x.with(p, 3));
        }
        int[] whats = {-1, 3, MOST, LEAST};
        for (int what : whats) {
            refused(ARGUMENT, "with(7, " + what + ")", x -> x.with(7, what));
            refused(ARGUMENT, "printed(0, " + what + ")", x -> x.printed(0, what));
        }
        for (int k : FAR) {
            refused(BOUNDS, "code(2, " + k + ", 0)", x -> x.code(2, k, 0));
            refused(BOUNDS, "code(2, " + k + ", 4)", x -> x.code(2, k, 4));
            refused(ARGUMENT, "code(2, 0, " + k + ")", x -> x.code(2, 0, k));
        }
        refused(ARGUMENT, "code(2, 0, 4)", x -> x.code(2, 0, 4));
        refused(BOUNDS, "code(2, just behind the last, 4)",
            x -> x.code(2, x.ofProcedure(2, 7), 4));
        refused(BOUNDS, "code(3, 0, 0)", x -> x.code(3, 0, 0));
        refused(BOUNDS, "code(-1, 0, 4)", x -> x.code(-1, 0, 4));
        int[] most = {-1, 11, MOST, LEAST};
        for (int what : most) {
            refused(ARGUMENT, "many(" + what + ")", x -> x.many(what));
            refused(ARGUMENT, "ofRun(" + what + ")", x -> x.ofRun(what));
        }
    }

    // ---- promises 13 to 16, and 19

    private void runs() {
        int[][] limits = {{0, 1}, {3001, 1}, {1, 0}, {1, 41}, {0, 0}, {-1, 20}, {1000, -1},
            {MOST, 1}, {1, MOST}, {LEAST, 1}, {1, LEAST}};
        for (int[] w : limits) {
            refused(ARGUMENT, "limits(" + w[0] + ", " + w[1] + ")", x -> x.limits(w[0], w[1]));
            refused(ARGUMENT, "wouldRun(" + w[0] + ", " + w[1] + ", 0)",
                x -> x.wouldRun(w[0], w[1], 0));
            refused(ARGUMENT, "wouldRun(" + w[0] + ", " + w[1] + ", 10)",
                x -> x.wouldRun(w[0], w[1], 10));
        }
        int[] whats = {-1, 10, 11, MOST, LEAST};
        for (int what : whats) {
            refused(ARGUMENT, "wouldRun(1, 1, " + what + ")", x -> x.wouldRun(1, 1, what));
        }
        int[] places = {-1, 50, MOST, LEAST};
        for (int k : places) {
            refused(BOUNDS, "printed(" + k + ", 0)", x -> x.printed(k, 0));
            refused(BOUNDS, "printed(" + k + ", 3)", x -> x.printed(k, 3));
        }
        refused(BOUNDS, "printed(just behind the last, 0)", x -> x.printed(x.ofRun(4), 0));
    }

    // ---- what FAULTS refuse, and what comes ahead of that

    private void withFaults() {
        refused(STATE, "run()", x -> x.run());
        refused(STATE, "wouldRun(1, 1, 0)", x -> x.wouldRun(1, 1, 0));
        refused(STATE, "wouldRun(3000, 40, 9)", x -> x.wouldRun(3000, 40, 9));
        refused(ARGUMENT, "wouldRun(0, 1, 0)", x -> x.wouldRun(0, 1, 0));
        refused(ARGUMENT, "wouldRun(1, 41, 0)", x -> x.wouldRun(1, 41, 0));
        refused(ARGUMENT, "wouldRun(1, 1, 10)", x -> x.wouldRun(1, 1, 10));
        for (int what = 0; what <= 2; what++) {
            int one = what;
            refused(STATE, "with(0, " + what + ")", x -> x.with(0, one));
            refused(STATE, "with(7, " + what + ")", x -> x.with(7, one));
            refused(ARGUMENT, "with(8, " + what + ")", x -> x.with(8, one));
        }
        refused(ARGUMENT, "with(-1, 3)", x -> x.with(-1, 3));
        for (int p = 0; p <= 4; p++) {
            int one = p;
            refused(BOUNDS, "code(" + p + ", 0, 0)", x -> x.code(one, 0, 0));
            refused(BOUNDS, "code(" + p + ", 0, 4)", x -> x.code(one, 0, 4));
        }
        refused(BOUNDS, "fault(just behind the last, 0)", x -> x.fault(x.many(3), 0));
        refused(BOUNDS, "fault(just behind the last, 3)", x -> x.fault(x.many(3), 3));
        for (int far : FAR) {
            refused(BOUNDS, "fault(" + far + ", 0)", x -> x.fault(far, 0));
            refused(BOUNDS, "fault(" + far + ", 3)", x -> x.fault(far, 3));
            refused(ARGUMENT, "fault(0, " + far + ")", x -> x.fault(0, far));
        }
        refused(ARGUMENT, "fault(0, 3)", x -> x.fault(0, 3));
    }

    private void fullOfAll() {
        refused(STATE, "procedure(0, 15)", x -> x.procedure(0, 15));
        refused(STATE, "procedure(0, 0), a NAME that it has, too", x -> x.procedure(0, 0));
        refused(ARGUMENT, "procedure(0, 16)", x -> x.procedure(0, 16));
        refused(BOUNDS, "procedure(10, 16)", x -> x.procedure(10, 16));
        refused(STATE, "parameter(1, 15, 0)", x -> x.parameter(1, 15, 0));
        refused(ARGUMENT, "parameter(1, 15, 6)", x -> x.parameter(1, 15, 6));
        refused(ARGUMENT, "parameter(1, 16, 0)", x -> x.parameter(1, 16, 0));
        refused(BOUNDS, "parameter(10, 16, 6)", x -> x.parameter(10, 16, 6));
        refused(STATE, "parameter(2, 15, 0), it has VARIABLES", x -> x.parameter(2, 15, 0));
        for (int kind = 0; kind <= 3; kind++) {
            int one = kind;
            refused(STATE, "variable(2, 15, " + kind + ")",
                x -> x.variable(2, 15, one, one == 1 ? 1 : 0));
            refused(ARGUMENT, "variable(2, 16, " + kind + ")",
                x -> x.variable(2, 16, one, one == 1 ? 1 : 0));
        }
        refused(ARGUMENT, "variable(2, 15, 1, 9)", x -> x.variable(2, 15, 1, 9));
        refused(STATE, "node(0, 0, 0, 0)", x -> x.node(0, 0, 0, 0));
        refused(STATE, "node(12, 0, 107, 109)", x -> x.node(12, 0, 107, 109));
        refused(ARGUMENT, "node(12, 0, 109, 109)", x -> x.node(12, 0, 109, 109));
        refused(ARGUMENT, "node(12, 0, 1, 109), a BODY", x -> x.node(12, 0, 1, 109));
        refused(ARGUMENT, "node(18, 0, 110, 0)", x -> x.node(18, 0, 110, 0));
        refused(ARGUMENT, "node(0, 1000, 0, 0)", x -> x.node(0, 1000, 0, 0));
        refused(ARGUMENT, "node(22, 0, 0, 0)", x -> x.node(22, 0, 0, 0));
        refused(BOUNDS, "ofNode(110, 8)", x -> x.ofNode(110, 8));
        refused(BOUNDS, "body(10, 110)", x -> x.body(10, 110));
    }

    private void newObject() {
        refused(STATE, "run()", x -> x.run());
        refused(STATE, "parameter(0, 0, 0)", x -> x.parameter(0, 0, 0));
        refused(STATE, "wouldRun(1, 1, 0)", x -> x.wouldRun(1, 1, 0));
        refused(STATE, "with(0, 0)", x -> x.with(0, 0));
        refused(BOUNDS, "procedure(1, 0)", x -> x.procedure(1, 0));
        refused(BOUNDS, "ofNode(0, 0)", x -> x.ofNode(0, 0));
        refused(BOUNDS, "body(0, 0)", x -> x.body(0, 0));
        refused(BOUNDS, "code(0, 0, 0)", x -> x.code(0, 0, 0));
        refused(BOUNDS, "fault(1, 0)", x -> x.fault(1, 0));
        refused(BOUNDS, "printed(0, 0)", x -> x.printed(0, 0));
        refused(ARGUMENT, "node(19, 0, 0, 0)", x -> x.node(19, 0, 0, 0));
        refused(ARGUMENT, "node(9, 0, -1, -1)", x -> x.node(9, 0, -1, -1));
        refused(ARGUMENT, "ofRun(11)", x -> x.ofRun(11));
    }
}
