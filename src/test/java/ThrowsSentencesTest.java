/**
 * The "Throws" lines of the promises 2 to 6 and 8 to 21 (those of node() stand in
 * NodesSentencesTest): each stands ahead of calls with all pairs of arguments about the edges that
 * it names, on four objects. Whether it applies is read from it anew here; the first one counts.
 */
public final class ThrowsSentencesTest {
    private static final Check CHECK = new Check("ThrowsSentencesTest");
    private static final int MOST = Integer.MAX_VALUE;
    private static final int LEAST = Integer.MIN_VALUE;
    private static final int NOTHING = 0;
    private static final int BOUNDS = 1;
    private static final int ARGUMENT = 2;
    private static final int STATE = 3;
    private static final int[] ABOUT = {LEAST, -2, -1, 0, 1, 2, 3, 4, 5, 7, 8, 9, 10, 11, MOST};
    private static final int[] NAMES = {LEAST, -1, 0, 3, 5, 9, 15, 16, MOST};
    private static final int[] PROCEDURES = {LEAST, -1, 0, 1, 2, 4, 5, 9, 10, MOST};

    private final String where;
    private final RefusalsTest.State state;
    private StaticLink x;

    private ThrowsSentencesTest(String where, RefusalsTest.State state) {
        this.where = where;
        this.state = state;
        this.x = state.build();
    }

    public static void main(String[] args) {
        ThrowsSentencesTest[] all = {new ThrowsSentencesTest("new", StaticLink::new),
            new ThrowsSentencesTest("without FAULTS", RefusalsTest::right),
            new ThrowsSentencesTest("with FAULTS", RefusalsTest::faulty),
            new ThrowsSentencesTest("full", RefusalsTest::full)};
        for (ThrowsSentencesTest test : all) {
            test.procedure();
            test.parameter();
            test.variable();
            test.ofName();
            test.ofProcedure();
            test.body();
            test.ofNode();
            test.fault();
            test.passes();
            test.code();
            test.limits();
            test.run();
            test.ofRun();
            test.printed();
            test.many();
            test.wouldRun();
            test.with();
            test.hiddenBy();
        }
        CHECK.end();
    }

    private static boolean isIn(int v, int least, int most) {
        return v >= least && v <= most;
    }

    private boolean hasProcedure(int p) {
        return isIn(p, 0, x.many(0) - 1);
    }

    private boolean hasFaults() {
        return x.many(3) > 0;
    }

    /** Whether the PROCEDURE itself declares the NAME. */
    private boolean declares(int p, int name) {
        return x.ofName(p, name, 0) == p;
    }

    /** What is thrown: the first of them that applies. */
    private static int first(boolean bounds, boolean argument, boolean state) {
        return bounds ? BOUNDS : argument ? ARGUMENT : state ? STATE : NOTHING;
    }

    private boolean makes(String call, int due, Check.Call made) {
        String what = where + ": " + call;
        switch (due) {
            case BOUNDS: CHECK.bounds(what, made); return false;
            case ARGUMENT: CHECK.argument(what, made); return false;
            case STATE: CHECK.state(what, made); return false;
            default: return true;
        }
    }

    private void asks(String call, int due, Check.Call made) {
        if (makes(call, due, made)) {
            try {
                made.make();
            } catch (RuntimeException e) {
                CHECK.fail(where + ": " + call + " threw " + e + ", due is an answer");
            }
        }
    }

    private void procedure() {
        CHECK.says("Returns its number; Throws IndexOutOfBoundsException if there is no such "
            + "PARENT; Throws IllegalArgumentException if name is not 0 to 15; Throws "
            + "IllegalStateException if there are 10, or the PARENT declares that NAME already");
        for (int parent : PROCEDURES) {
            for (int name : NAMES) {
                x = state.build();
                boolean bounds = !hasProcedure(parent);
                boolean argument = !isIn(name, 0, 15);
                boolean full = !bounds && !argument
                    && (x.many(0) == 10 || declares(parent, name));
                String call = "procedure(" + parent + ", " + name + ")";
                if (makes(call, first(bounds, argument, full), () -> x.procedure(parent, name))) {
                    CHECK.due(call, x.procedure(parent, name), x.many(0) - 1);
                    CHECK.due("its NAME", x.ofName(parent, name, 4), x.many(0) - 1);
                    CHECK.due("its NAME", x.ofProcedure(x.many(0) - 1, 1), name);
                    CHECK.due("its PARENT", x.ofProcedure(x.many(0) - 1, 0), parent);
                }
            }
        }
    }

    private void parameter() {
        CHECK.says("Returns its PLACE; Throws IndexOutOfBoundsException if there is no such "
            + "PROCEDURE; Throws IllegalArgumentException if name is not 0 to 15, or mode is not 0 "
            + "to 5; Throws IllegalStateException if it is MAIN, or has 4, or declares that NAME "
            + "already, or has a VARIABLE");
        int[] modes = {LEAST, -1, 0, 5, 6, MOST};
        for (int p : PROCEDURES) {
            for (int name : NAMES) {
                for (int mode : modes) {
                    parameter(p, name, mode);
                }
            }
        }
    }

    private void parameter(int p, int name, int mode) {
        x = state.build();
        boolean bounds = !hasProcedure(p);
        boolean argument = !isIn(name, 0, 15) || !isIn(mode, 0, 5);
        boolean full = !bounds && !argument && (p == 0 || x.ofProcedure(p, 2) == 4
            || declares(p, name) || x.ofProcedure(p, 3) > 0);
        String call = "parameter(" + p + ", " + name + ", " + mode + ")";
        if (makes(call, first(bounds, argument, full), () -> x.parameter(p, name, mode))) {
            int before = x.ofProcedure(p, 2);
            CHECK.due(call, x.parameter(p, name, mode), before);
            CHECK.due("its PLACE", x.ofName(p, name, 2), before);
            CHECK.due("its MODE", x.ofName(p, name, 3), mode);
            CHECK.due("how many", x.ofProcedure(p, 2), before + 1);
        }
    }

    private void variable() {
        CHECK.says("Throws IllegalArgumentException if name is not 0 to 15, or kind is not 0 to 3, "
            + "or size is not 1 to 8 for an ARRAY, -99 to 99 for a CONSTANT, 0 for others; Throws "
            + "IllegalStateException if it has 6, or declares that NAME already");
        int[] kinds = {LEAST, -1, 0, 1, 2, 3, 4, MOST};
        int[] sizes = {LEAST, -100, -99, -1, 0, 1, 8, 9, 99, 100, MOST};
        int[] procedures = {LEAST, 0, 2, 5, 10};
        int[] names = {-1, 0, 9, 15, 16};
        for (int p : procedures) {
            for (int name : names) {
                for (int k = 0; k < kinds.length * sizes.length; k++) {
                    variable(p, name, kinds[k / sizes.length], sizes[k % sizes.length]);
                }
            }
        }
    }

    private void variable(int p, int name, int kind, int size) {
        x = state.build();
        boolean bounds = !hasProcedure(p);
        boolean fits = kind == 1 ? isIn(size, 1, 8) : kind == 3 ? isIn(size, -99, 99) : size == 0;
        boolean argument = !isIn(name, 0, 15) || !isIn(kind, 0, 3) || !fits;
        boolean full = !bounds && !argument && (x.ofProcedure(p, 3) == 6 || declares(p, name));
        String call = "variable(" + p + ", " + name + ", " + kind + ", " + size + ")";
        if (makes(call, first(bounds, argument, full), () -> x.variable(p, name, kind, size))) {
            int before = x.ofProcedure(p, 3);
            int place = x.variable(p, name, kind, size);
            CHECK.due(call, x.ofName(p, name, 2), place);
            CHECK.due("a CONSTANT has none", place == -1 ? 1 : 0, kind == 3 ? 1 : 0);
            CHECK.due("what it is", x.ofName(p, name, 3), 6 + kind);
            CHECK.due("its size, or value", x.ofName(p, name, 4), size);
            CHECK.due("how many", x.ofProcedure(p, 3), before + 1);
        }
    }

    private void ofName() {
        CHECK.says("Throws IndexOutOfBoundsException if there is no such PROCEDURE; Throws "
            + "IllegalArgumentException if name is not 0 to 15, or what is not 0 to 4");
        for (int p : PROCEDURES) {
            for (int name : NAMES) {
                for (int what : ABOUT) {
                    asks("ofName(" + p + ", " + name + ", " + what + ")",
                        first(!hasProcedure(p), !isIn(name, 0, 15) || !isIn(what, 0, 4), false),
                        () -> x.ofName(p, name, what));
                }
            }
        }
    }

    private void ofProcedure() {
        CHECK.says("Throws IndexOutOfBoundsException if there is no such PROCEDURE; Throws "
            + "IllegalArgumentException if what is not 0 to 7");
        for (int p : PROCEDURES) {
            for (int what : ABOUT) {
                asks("ofProcedure(" + p + ", " + what + ")",
                    first(!hasProcedure(p), !isIn(what, 0, 7), false),
                    () -> x.ofProcedure(p, what));
            }
        }
    }

    /** Whether it is part of a NODE, or a BODY: by what the parts of all others are. */
    private boolean isTaken(int n) {
        for (int p = 0; p < x.many(0); p++) {
            if (x.ofProcedure(p, 6) == n) {
                return true;
            }
        }
        for (int m = n + 1; m < x.many(1); m++) {
            int kind = x.ofNode(m, 0);
            boolean isA = kind == 15;
            boolean isB = kind >= 2 && kind <= 9 || kind >= 12 && kind != 17;
            boolean isC = kind >= 3 && kind <= 7 || kind == 9 || kind == 12
                || kind >= 14 && kind <= 16;
            if (isA && x.ofNode(m, 1) == n || isB && x.ofNode(m, 2) == n
                    || isC && x.ofNode(m, 3) == n) {
                return true;
            }
        }
        return false;
    }

    private void body() {
        CHECK.says("Returns the one before (NONE); Throws IndexOutOfBoundsException if there is no "
            + "such PROCEDURE, or NODE; Throws IllegalArgumentException if it is no STATEMENT; "
            + "Throws IllegalStateException if it is part of a NODE, or a BODY");
        int nodes = state.build().many(1);
        for (int p : PROCEDURES) {
            for (int k = -2; k <= nodes + 3; k++) {
                int n = k == -2 ? LEAST : k == nodes + 2 ? 110 : k == nodes + 3 ? MOST : k;
                x = state.build();
                boolean bounds = !hasProcedure(p) || !isIn(n, 0, nodes - 1);
                boolean argument = !bounds && x.ofNode(n, 0) < 12;
                boolean taken = !bounds && !argument && isTaken(n);
                String call = "body(" + p + ", " + n + ")";
                if (makes(call, first(bounds, argument, taken), () -> x.body(p, n))) {
                    CHECK.due(call, x.ofProcedure(p, 6), x.body(p, n));
                    CHECK.due("its BODY", x.ofProcedure(p, 6), n);
                    CHECK.due("where it is", x.ofNode(n, 4), p);
                }
            }
        }
        x = state.build();
    }

    private void ofNode() {
        CHECK.says("Throws IndexOutOfBoundsException if there is no such NODE; Throws "
            + "IllegalArgumentException if what is not 0 to 7");
        int last = x.many(1) - 1;
        int[] nodes = {LEAST, -1, 0, last, last + 1, 109, 110, MOST};
        for (int n : nodes) {
            for (int what : ABOUT) {
                asks("ofNode(" + n + ", " + what + ")",
                    first(!isIn(n, 0, last), !isIn(what, 0, 7), false), () -> x.ofNode(n, what));
            }
        }
    }

    private void fault() {
        CHECK.says("Throws IndexOutOfBoundsException if there is no such FAULT; Throws "
            + "IllegalArgumentException if what is not 0 to 2");
        for (int k : ABOUT) {
            for (int what : ABOUT) {
                asks("fault(" + k + ", " + what + ")",
                    first(!isIn(k, 0, x.many(3) - 1), !isIn(what, 0, 2), false),
                    () -> x.fault(k, what));
            }
        }
    }

    private void passes() {
        CHECK.says("Throws IllegalArgumentException if passes is not 0 to 7");
        for (int passes : ABOUT) {
            asks("passes(" + passes + ")", first(false, !isIn(passes, 0, 7), false),
                () -> x.passes(passes));
        }
        x = state.build();
    }

    private void code() {
        CHECK.says("Throws IndexOutOfBoundsException if there is no such PROCEDURE, or there are "
            + "FAULTS, or there is no such place; Throws IllegalArgumentException if what is not 0 "
            + "to 3");
        for (int p : PROCEDURES) {
            int length = hasProcedure(p) && !hasFaults() ? x.ofProcedure(p, 7) : 0;
            int[] places = {LEAST, -1, 0, 1, length - 1, length, MOST};
            for (int k : places) {
                for (int what : ABOUT) {
                    asks("code(" + p + ", " + k + ", " + what + ")",
                        first(!isIn(k, 0, length - 1), !isIn(what, 0, 3), false),
                        () -> x.code(p, k, what));
                }
            }
        }
    }

    private void limits() {
        CHECK.says("Throws IllegalArgumentException if most is not 1 to 3000, or deep is not 1 to "
            + "40");
        int[] mosts = {LEAST, -1, 0, 1, 2, 2999, 3000, 3001, MOST};
        int[] deeps = {LEAST, -1, 0, 1, 2, 39, 40, 41, MOST};
        for (int most : mosts) {
            for (int deep : deeps) {
                asks("limits(" + most + ", " + deep + ")",
                    first(false, !isIn(most, 1, 3000) || !isIn(deep, 1, 40), false),
                    () -> x.limits(most, deep));
            }
        }
        x = state.build();
    }

    private void run() {
        CHECK.says("Throws IllegalStateException if there are FAULTS");
        asks("run()", first(false, false, hasFaults()), () -> x.run());
        x = state.build();
    }

    private void ofRun() {
        CHECK.says("Throws IllegalArgumentException if what is not 0 to 10");
        for (int what : ABOUT) {
            asks("ofRun(" + what + ")", first(false, !isIn(what, 0, 10), false),
                () -> x.ofRun(what));
        }
    }

    private void printed() {
        CHECK.says("Throws IndexOutOfBoundsException if there is no such one, or it is not kept; "
            + "Throws IllegalArgumentException if what is not 0 to 2");
        for (int k : ABOUT) {
            for (int what : ABOUT) {
                asks("printed(" + k + ", " + what + ")",
                    first(!isIn(k, 0, x.ofRun(4) - 1), !isIn(what, 0, 2), false),
                    () -> x.printed(k, what));
            }
        }
        // 70 are PRINTED, and 50 kept.
        Build b = new Build();
        b.x.variable(0, 0, 0, 0);
        b.x.body(0, b.loop(0, b.less(b.use(0), b.number(70)), b.seq(b.count(0),
            b.print(b.use(0)))));
        b.x.run();
        CHECK.due("PRINTED", b.x.ofRun(4), 70);
        int[] about = {0, 48, 49, 50, 51, 69, 70};
        for (int k : about) {
            for (int what : ABOUT) {
                asks("printed(" + k + ", " + what + ") of 70",
                    first(k >= 50, !isIn(what, 0, 2), false), () -> b.x.printed(k, what));
            }
        }
    }

    private void many() {
        CHECK.says("Throws IllegalArgumentException if what is not 0 to 10");
        for (int what : ABOUT) {
            asks("many(" + what + ")", first(false, !isIn(what, 0, 10), false),
                () -> x.many(what));
        }
    }

    private void wouldRun() {
        CHECK.says("Throws IllegalArgumentException if most is not 1 to 3000, deep is not 1 to 40, "
            + "or what is not 0 to 9; Throws IllegalStateException if there are FAULTS");
        int[] mosts = {LEAST, 0, 1, 3000, 3001, MOST};
        int[] deeps = {LEAST, 0, 1, 40, 41, MOST};
        for (int most : mosts) {
            for (int deep : deeps) {
                for (int what : ABOUT) {
                    boolean argument = !isIn(most, 1, 3000) || !isIn(deep, 1, 40)
                        || !isIn(what, 0, 9);
                    asks("wouldRun(" + most + ", " + deep + ", " + what + ")",
                        first(false, argument, hasFaults()), () -> x.wouldRun(most, deep, what));
                }
            }
        }
    }

    private void with() {
        CHECK.says("Throws IllegalArgumentException if passes is not 0 to 7, or what is not 0 to "
            + "2; Throws IllegalStateException if there are FAULTS");
        for (int passes : ABOUT) {
            for (int what : ABOUT) {
                asks("with(" + passes + ", " + what + ")",
                    first(false, !isIn(passes, 0, 7) || !isIn(what, 0, 2), hasFaults()),
                    () -> x.with(passes, what));
            }
        }
    }

    private void hiddenBy() {
        CHECK.says("Throws IndexOutOfBoundsException if there is no such PROCEDURE; Throws "
            + "IllegalArgumentException if name is not 0 to 15");
        for (int p : PROCEDURES) {
            for (int name : NAMES) {
                asks("hiddenBy(" + p + ", " + name + ")",
                    first(!hasProcedure(p), !isIn(name, 0, 15), false),
                    () -> x.hiddenBy(p, name));
            }
        }
    }
}
