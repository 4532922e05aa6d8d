/** Promises 7 to 10: node, body, ofNode, fault. */
public final class NodesTest {
    private static final Check CHECK = new Check("NodesTest");

    public static void main(String[] args) {
        numbersAndNames();
        parts();
        tooMany();
        bodies();
        ofNodes();
        faultsOfNames();
        faultsOfCalls();
        faultsOfBreaks();
        orderOfFaults();
        CHECK.end();
    }

    private static void refused(StaticLink x, int kind, int a, int b, int c) {
        CHECK.argument("node(" + kind + ", " + a + ", " + b + ", " + c + ")",
            () -> x.node(kind, a, b, c));
    }

    private static void numbersAndNames() {
        Build b = new Build();
        StaticLink x = b.x;
        CHECK.due("node, the first", x.node(0, 999, 0, 0), 0);
        CHECK.due("node, the second", x.node(0, -999, 0, 0), 1);
        int[][] wrong = {{-1, 0, 0, 0}, {22, 0, 0, 0}, {0, 1000, 0, 0}, {0, -1000, 0, 0},
            {0, 0, 1, 0}, {0, 0, 0, 1}, {0, 0, -1, 0}, {1, 16, 0, 0}, {1, -1, 0, 0},
            {1, 0, 0, -1}, {1, 0, 1, 0}, {10, 16, 0, 0}, {10, 0, -1, 0}, {11, -1, 0, 0},
            {11, 0, 0, 1}, {17, 10, 0, 0}, {17, -1, 0, 0}, {17, 0, 1, 0}, {17, 0, 0, 1},
            {8, 16, -1, 0}, {8, 0, -1, -1}, {8, 0, -2, 0}, {8, 0, 0, 0},
            {Integer.MAX_VALUE, 0, 0, 0}, {Integer.MIN_VALUE, 0, 0, 0}};
        for (int[] w : wrong) {
            refused(x, w[0], w[1], w[2], w[3]);
        }
        CHECK.due("many(1)", x.many(1), 2);
        CHECK.due("a CALL without ARGUMENTS", x.node(8, 15, -1, 0), 2);
        CHECK.due("a BREAK", x.node(17, 9, 0, 0), 3);
    }

    private static void parts() {
        Build b = new Build();
        StaticLink x = b.x;
        int e = b.number(1);
        int f = b.number(2);
        int call = b.call(0);
        int taken = b.taken(0);
        int array = b.array(0);
        int s = b.leave(0);
        int t = b.leave(1);
        int argument = x.node(9, 0, b.number(3), -1);
        int[] notExpressions = {taken, array, s, argument, -1, -2, 100, 110, Integer.MIN_VALUE};
        for (int n : notExpressions) {
            refused(x, 2, 0, n, 0);
            refused(x, 3, 0, n, f);
            refused(x, 7, 0, e, n);
            refused(x, 13, 0, n, 0);
            refused(x, 14, 0, n, f);
            refused(x, 14, 0, e, n);
            refused(x, 15, -1, n, s);
            refused(x, 16, 0, n, s);
            refused(x, 18, 0, n, 0);
            refused(x, 19, 0, n, 0);
        }
        int[] notStatements = {e, call, taken, array, argument, -1, 100};
        for (int n : notStatements) {
            refused(x, 12, 0, n, t);
            refused(x, 12, 0, s, n);
            refused(x, 15, -1, e, n);
            refused(x, 16, 0, e, n);
        }
        refused(x, 15, e, f, s);
        refused(x, 15, -2, f, s);
        refused(x, 15, 100, f, s);
        refused(x, 15, s, f, s);
        refused(x, 12, 0, s, s);
        refused(x, 3, 0, e, e);
        refused(x, 14, 0, e, e);
        refused(x, 3, 1, e, f);
        refused(x, 12, 1, s, t);
        refused(x, 18, 1, e, 0);
        refused(x, 19, 0, e, 1);
        refused(x, 20, 0, e, 0);
        refused(x, 20, 0, -1, 0);
        refused(x, 20, 1, call, 0);
        refused(x, 21, 0, call, 0);
        refused(x, 21, 16, taken, 0);
        refused(x, 9, 1, e, -1);
        refused(x, 9, 0, s, -1);
        refused(x, 9, 0, argument, -1);
        refused(x, 9, 0, e, f);
        refused(x, 9, 0, e, -2);
        refused(x, 8, 0, e, 0);
        refused(x, 16, 10, e, s);
        nothingElse(x, e, f, s);
        int sum = b.add(e, f);
        refused(x, 19, 0, e, 0);
        refused(x, 3, 0, f, sum);
        refused(x, 3, 0, sum + 1, sum);
        int print = b.print(sum);
        x.body(0, print);
        refused(x, 12, 0, print, s);
        refused(x, 12, 0, s, print);
        x.body(0, t);
        CHECK.due("what was a BODY is free again", x.node(12, 0, print, s), print + 1);
        CHECK.due("a list of two ARGUMENTS", x.node(9, 0, taken, argument), print + 2);
        refused(x, 8, 0, argument, 0);
        CHECK.due("an ARRAY NAME is handed on", x.node(9, 0, array, -1), print + 3);
        CHECK.due("IF with both", x.node(15, print + 1, call, b.leave(2)), print + 5);
    }

    // What is not told is 0.
    private static void nothingElse(StaticLink x, int e, int f, int s) {
        int[] others = {1, -1, e, s};
        for (int other : others) {
            if (other == 0) {
                continue;
            }
            for (int kind = 3; kind <= 7; kind++) {
                refused(x, kind, other, e, f);
            }
            refused(x, 2, 0, e, other);
            refused(x, 8, 0, -1, other);
            refused(x, 9, other, e, -1);
            refused(x, 10, 0, other, 0);
            refused(x, 10, 0, 0, other);
            refused(x, 11, 0, other, 0);
            refused(x, 11, 0, 0, other);
            refused(x, 13, 0, e, other);
            refused(x, 18, 0, e, other);
            refused(x, 18, other, e, 0);
            refused(x, 19, other, e, 0);
        }
    }

    private static void tooMany() {
        Build b = new Build();
        StaticLink x = b.x;
        for (int k = 0; k < 110; k++) {
            CHECK.due("node", b.number(k), k);
        }
        CHECK.state("node, one more", () -> x.node(0, 0, 0, 0));
        CHECK.state("node, one more of parts", () -> x.node(3, 0, 108, 109));
        CHECK.argument("node, wrong ahead of too many", () -> x.node(0, 1000, 0, 0));
        CHECK.argument("node, itself", () -> x.node(18, 0, 110, 0));
        CHECK.due("many(1)", x.many(1), 110);
        CHECK.due("many(2)", x.many(2), 110);
    }

    private static void bodies() {
        Build b = new Build();
        StaticLink x = b.x;
        x.procedure(0, 0);
        int one = b.print(b.number(1));
        int two = b.print(b.number(2));
        CHECK.due("body, the first", x.body(0, one), -1);
        CHECK.due("body, another one", x.body(0, two), one);
        CHECK.due("IN, what was part", x.ofNode(one, 4), -1);
        CHECK.due("IN, its part", x.ofNode(one - 1, 4), -1);
        CHECK.due("IN, what is part", x.ofNode(two - 1, 4), 0);
        CHECK.due("body of another PROCEDURE", x.body(1, one), -1);
        CHECK.due("IN, moved", x.ofNode(one, 4), 1);
        CHECK.state("body, that is one of another", () -> x.body(0, one));
        CHECK.state("body, that it is already", () -> x.body(1, one));
        CHECK.argument("body, an EXPRESSION, that is part", () -> x.body(0, 0));
        int free = b.number(5);
        CHECK.argument("body, an EXPRESSION", () -> x.body(0, free));
        int part = b.leave(0);
        b.seq(part, b.leave(1));
        CHECK.state("body, that is part", () -> x.body(0, part));
        CHECK.bounds("body, none such PROCEDURE", () -> x.body(2, one));
        CHECK.bounds("body, none such PROCEDURE", () -> x.body(-1, one));
        CHECK.bounds("body, none such NODE", () -> x.body(0, part + 3));
        CHECK.bounds("body, none such NODE", () -> x.body(0, -1));
        CHECK.due("its BODY", x.ofProcedure(0, 6), two);
    }

    private static void ofNodes() {
        Build b = new Build();
        StaticLink x = b.x;
        x.variable(0, 3, 0, 0);
        x.procedure(0, 4);
        int six = b.mul(b.number(2), b.number(3));
        int bad = b.div(b.number(4), b.number(0));
        int zero = b.less(b.number(5), b.number(5));
        int badToo = b.div(b.number(4), zero);
        int sum = b.add(six, badToo);
        int wide = b.add(b.use(3), bad);
        int print = b.print(b.sub(sum, wide));
        int[] folded = {six, zero};
        int[] notFolded = {six - 1, bad, badToo, sum, wide, print};
        for (int n : folded) {
            CHECK.due("FOLDED, IN none", x.ofNode(n, 5), 1);
        }
        for (int n : notFolded) {
            CHECK.due("not FOLDED", x.ofNode(n, 5), 0);
        }
        CHECK.due("HOPS, IN none", x.ofNode(wide - 1 - 3, 7), -1);
        x.passes(0);
        x.body(1, print);
        for (int n : folded) {
            CHECK.due("FOLDED, without FOLD", x.ofNode(n, 5), 1);
        }
        int[] want = {5, 0, six - 2, six - 1, 1, 1, 0, -1};
        for (int what = 0; what <= 7; what++) {
            CHECK.due("ofNode(MUL, " + what + ")", x.ofNode(six, what), want[what]);
        }
        int use = x.ofNode(wide, 2);
        CHECK.due("HOPS of a USE", x.ofNode(use, 7), 1);
        x.variable(1, 3, 0, 0);
        CHECK.due("HOPS of a USE, hidden", x.ofNode(use, 7), 0);
        CHECK.bounds("ofNode of none such", () -> x.ofNode(x.many(1), 8));
        CHECK.bounds("ofNode of -1", () -> x.ofNode(-1, 0));
        CHECK.argument("ofNode, what 8", () -> x.ofNode(0, 8));
        CHECK.argument("ofNode, what -1", () -> x.ofNode(0, -1));
        tails();
    }

    private static void tails() {
        Build b = new Build();
        StaticLink x = b.x;
        x.procedure(0, 1);
        x.parameter(1, 2, 0);
        x.variable(1, 3, 0, 0);
        x.procedure(1, 4);
        x.procedure(0, 5);
        x.parameter(3, 6, 1);
        int self = b.give(b.call(1, b.use(2)));
        int inner = b.give(b.call(4));
        int ref = b.give(b.call(5, b.use(3)));
        int unbound = b.give(b.call(9));
        int plain = b.give(b.number(1));
        int fewer = b.give(b.call(1));
        CHECK.due("TAIL, IN none", x.ofNode(self, 6), 0);
        b.body(1, self, inner, ref, unbound, plain, fewer);
        CHECK.due("TAIL", x.ofNode(self, 6), 1);
        CHECK.due("TAIL is the RETURN, not its CALL", x.ofNode(self - 1, 6), 0);
        CHECK.due("no TAIL: INSIDE its own one", x.ofNode(inner, 6), 0);
        CHECK.due("no TAIL: a REF", x.ofNode(ref, 6), 0);
        CHECK.due("no TAIL: unbound", x.ofNode(unbound, 6), 0);
        CHECK.due("no TAIL: no CALL", x.ofNode(plain, 6), 0);
        CHECK.due("TAIL, though an ARGUMENT is missing", x.ofNode(fewer, 6), 1);
        int main = b.give(b.call(1, b.number(3)));
        x.body(0, main);
        CHECK.due("no TAIL: MAIN", x.ofNode(main, 6), 0);
        int outer = b.give(b.call(1, b.number(1)));
        x.body(2, outer);
        CHECK.due("TAIL to one that is around it", x.ofNode(outer, 6), 1);
        CHECK.due("many(4)", x.many(4), 3);
        x.body(3, b.perform(b.call(5, b.taken(4))));
        CHECK.due("a TAKEN that is unbound there", x.ofNode(self, 6), 1);
        x.body(2, b.set(3, b.number(1)));
        b.body(1, b.give(b.call(1, b.use(2))), b.perform(b.call(8, b.taken(4))));
        CHECK.due("no TAIL: something ESCAPES", x.many(4), 0);
        x.variable(2, 3, 0, 0);
        CHECK.due("TAIL: it is hidden", x.many(4), 1);
    }

    private static Build declared() {
        Build b = new Build();
        StaticLink x = b.x;
        x.procedure(0, 0);
        x.parameter(1, 1, 0);
        x.parameter(1, 2, 1);
        x.parameter(1, 3, 2);
        x.parameter(1, 4, 3);
        x.variable(1, 5, 0, 0);
        x.variable(1, 6, 1, 2);
        x.variable(1, 7, 2, 0);
        x.variable(1, 8, 3, 4);
        x.procedure(1, 9);
        x.parameter(2, 10, 4);
        x.parameter(2, 11, 5);
        x.procedure(1, 12);
        x.parameter(3, 15, 0);
        x.body(2, b.print(b.number(0)));
        x.body(3, b.print(b.number(0)));
        return b;
    }

    private static void fault(Build b, String what, int which, int n) {
        CHECK.due(what, b.faults(), which == 0 ? "" : which + " 0 " + n);
    }

    // All NAMES of all kinds: what is declared in a PROCEDURE with a BODY for each NODE.
    private static void faultsOfNames() {
        // Of the NAMES 1 to 12, and 13 (unbound): by kind of NODE the FAULT that is due.
        int[] kinds = {1, 2, 8, 10, 11, 13, 14, 21};
        int[][] want = {
            {0, 0, 0, 2, 0, 2, 2, 0, 2, 2, 1}, {2, 2, 2, 0, 2, 0, 2, 2, 2, 2, 1},
            {2, 2, 2, 2, 2, 2, 0, 2, 4, 4, 1}, {2, 2, 2, 2, 2, 2, 0, 2, 2, 0, 1},
            {2, 2, 2, 0, 2, 0, 2, 2, 2, 2, 1}, {0, 0, 3, 2, 0, 2, 2, 3, 2, 2, 1},
            {2, 2, 2, 0, 2, 0, 2, 2, 2, 2, 1}, {2, 2, 2, 2, 2, 2, 0, 2, 2, 2, 1}};
        int[] names = {1, 2, 3, 4, 5, 6, 7, 8, 9, 12, 13};
        for (int k = 0; k < kinds.length; k++) {
            for (int j = 0; j < names.length; j++) {
                faultOfName(kinds[k], names[j], want[k][j]);
            }
        }
        Build b = declared();
        b.x.body(1, b.print(b.number(1)));
        b.x.body(0, b.print(b.number(1)));
        int inner = b.perform(b.call(11));
        b.x.body(2, inner);
        CHECK.due("a PROC that is a PARAMETER is CALLED", b.faults(), "");
        b.x.body(2, b.print(b.at(10, b.number(0))));
        CHECK.due("an ARRAY that is a PARAMETER", b.faults(), "");
        int keep = b.keep(11, b.taken(7));
        b.x.body(2, keep);
        CHECK.due("KEEP in a PROC that is a PARAMETER", b.faults(), "2 2 " + keep);
    }

    private static void faultOfName(int kind, int name, int which) {
        Build b = declared();
        int n;
        int s;
        switch (kind) {
            case 1: n = b.use(name); s = b.print(n); break;
            case 2: n = b.at(name, b.number(0)); s = b.print(n); break;
            case 8: n = b.call(name); s = b.perform(n); break;
            case 10: n = b.taken(name); s = b.keep(7, n); break;
            case 11: n = b.array(name); s = b.perform(b.call(9, n, b.taken(7))); break;
            case 13: n = b.set(name, b.number(0)); s = n; break;
            case 14: n = b.store(name, b.number(0), b.number(0)); s = n; break;
            default: n = b.keep(name, b.taken(7)); s = n; break;
        }
        b.x.body(1, s);
        b.x.body(0, b.print(b.number(1)));
        CHECK.due("kind " + kind + " of the NAME " + name, b.faults(),
            which == 0 ? "" : which + " 1 " + n);
    }

    private static int handed(Build b, int which) {
        switch (which) {
            case 0: return b.number(1);
            case 1: return b.use(0);
            case 2: return b.at(1, b.number(0));
            case 3: return b.use(3);
            case 4: return b.taken(2);
            case 5: return b.array(1);
            case 6: return b.call(5);
            default: return b.use(0);
        }
    }

    private static void faultsOfCalls() {
        // By MODE: whether a NUMBER, a USE, an AT, a CONSTANT, a TAKEN, an ARRAY NAME, a CALL suit.
        String[] suits = {"1111001", "0110000", "1111001", "0000010", "0000010", "0000100"};
        for (int mode = 0; mode <= 5; mode++) {
            for (int which = 0; which <= 6; which++) {
                Build b = forCalls(mode);
                int call = b.call(4, handed(b, which));
                b.x.body(0, b.perform(call));
                fault(b, "MODE " + mode + ", handed " + which,
                    suits[mode].charAt(which) == '1' ? 0 : 5, call);
            }
        }
        for (int which = 0; which <= 6; which++) {
            Build b = forCalls(0);
            int call = b.call(2, b.number(3), handed(b, which));
            b.x.body(0, b.perform(call));
            fault(b, "a PROC, handed " + which, suits[0].charAt(which) == '1' ? 0 : 5, call);
        }
        Build b = forCalls(1);
        int fewer = b.call(4);
        int more = b.call(4, b.use(0), b.taken(2));
        int unbound = b.call(4, b.use(9));
        b.body(0, b.perform(fewer), b.perform(more), b.perform(unbound));
        CHECK.due("fewer, more, and a REF that is unbound", b.faults(), "4 0 " + fewer + "; 4 0 "
            + more + "; 5 0 " + unbound + "; 1 0 " + b.x.ofNode(b.x.ofNode(unbound, 2), 2));
        Build c = forCalls(1);
        int wrongAt = c.at(0, c.number(0));
        c.body(0, c.perform(c.call(4, wrongAt)));
        fault(c, "a REF, to an AT that is wrong itself", 2, wrongAt);
        refOfParameters();
    }

    private static Build forCalls(int mode) {
        Build b = new Build();
        b.x.variable(0, 0, 0, 0);
        b.x.variable(0, 1, 1, 2);
        b.x.variable(0, 2, 2, 0);
        b.x.variable(0, 3, 3, 5);
        b.x.procedure(0, 4);
        b.x.parameter(1, 10, mode);
        b.x.procedure(0, 5);
        b.x.body(1, b.print(b.number(1)));
        b.x.body(2, b.print(b.number(1)));
        return b;
    }

    // What could be SET is a VALUE and a REF, too, but nothing that is BY NAME.
    private static void refOfParameters() {
        int[] want = {0, 0, 5};
        for (int mode = 0; mode <= 2; mode++) {
            Build b = forCalls(1);
            b.x.procedure(0, 6);
            b.x.parameter(3, 11, mode);
            int call = b.call(4, b.use(11));
            b.x.body(3, b.perform(call));
            b.x.body(0, b.print(b.number(1)));
            CHECK.due("a REF to a PARAMETER of MODE " + mode, b.faults(),
                want[mode] == 0 ? "" : want[mode] + " 3 " + call);
        }
    }

    private static void faultsOfBreaks() {
        Build b = new Build();
        b.x.procedure(0, 0);
        b.x.procedure(1, 1);
        b.x.procedure(0, 2);
        int own = b.leave(1);
        int beside = b.leave(2);
        b.body(2, b.loop(1, b.number(1), own), b.loop(2, b.number(0), b.leave(3)), beside);
        b.body(1, b.loop(3, b.number(0), b.print(b.number(1))), b.leave(4));
        b.body(0, b.loop(4, b.number(0), b.print(b.number(1))), b.leave(4));
        int sister = b.leave(3);
        b.body(3, sister, b.leave(4));
        int main = b.x.ofNode(b.x.ofProcedure(0, 6), 3);
        CHECK.due("BREAKS", b.faults(), "6 0 " + main + "; 6 2 " + beside + "; 6 3 " + sister);
        int zero = b.leave(0);
        b.x.body(2, zero);
        CHECK.due("a LABEL that no LOOP has", b.x.fault(1, 2), zero);
        b.x.body(2, wholeOf(b, beside));
        int inNone = b.loop(2, b.number(1), b.print(b.number(1)));
        CHECK.due("a LOOP IN none", b.x.many(3), 3);
        b.x.body(0, inNone);
        CHECK.due("a LOOP with 2 around, none with 4", b.faults(), "6 1 "
            + b.x.ofNode(b.x.ofProcedure(1, 6), 3) + "; 6 3 " + sister + "; 6 3 " + (sister + 1));
    }

    /** The NODE around all that is around n. */
    private static int wholeOf(Build b, int n) {
        int at = n;
        for (int k = n + 1; k < b.x.many(1); k++) {
            boolean isPart = b.x.ofNode(k, 0) == 12
                && (b.x.ofNode(k, 2) == at || b.x.ofNode(k, 3) == at);
            at = isPart ? k : at;
        }
        return at;
    }

    private static void orderOfFaults() {
        Build b = new Build();
        b.x.procedure(0, 0);
        int inB = b.use(10);
        int inA = b.set(11, b.use(12));
        int inC = b.set(13, b.number(1));
        int first = b.when(inB, inC, inA);
        int call = b.call(14, b.use(14), b.use(15));
        int second = b.perform(call);
        b.body(0, first, second);
        String want = "1 0 " + inA + "; 1 0 " + (inA - 1) + "; 1 0 " + inB + "; 1 0 " + inC
            + "; 1 0 " + call;
        int list = b.x.ofNode(call, 2);
        want += "; 1 0 " + b.x.ofNode(list, 2) + "; 1 0 " + b.x.ofNode(b.x.ofNode(list, 3), 2);
        CHECK.due("a, b, c, and PROCEDURE by PROCEDURE", b.faults(), want + "; 10 1 -1");
        int many = b.x.many(3);
        CHECK.bounds("fault, none such", () -> b.x.fault(many, 3));
        CHECK.bounds("fault(-1, 0)", () -> b.x.fault(-1, 0));
        CHECK.argument("fault, what 3", () -> b.x.fault(0, 3));
        CHECK.argument("fault, what -1", () -> b.x.fault(0, -1));
    }
}
