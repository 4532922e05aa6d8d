/**
 * The sentences of section 5, and those of promises 11 and 12, that name a boundary: each one
 * stands ahead of its checks. What is refused stands in RefusalsTest, too.
 */
public final class CodeSentencesTest {
    private static final Check CHECK = new Check("CodeSentencesTest");

    public static void main(String[] args) {
        handedOn();
        escapes();
        escapesOfWhateverKind();
        passesAtFirst();
        passesChangeNothing();
        cells();
        live();
        folded();
        pushAndBack();
        operandsOfExpressions();
        operandsOfCalls();
        operandsOfWhatIsHandedOn();
        jumps();
        leaves();
        tailsAlone();
        operandsThatAreNotNamed();
        howManyBegin();
        noSuchPlace();
        foundAnew();
        CHECK.end();
    }

    private static void handedOn() {
        CHECK.says("A PROCEDURE is HANDED ON, if a TAKEN in a BODY names it");
        Build b = new Build();
        b.x.variable(0, 0, 2, 0);
        b.x.procedure(0, 1);
        b.x.procedure(1, 2);
        // The very first NODE is the TAKEN.
        int taken = b.taken(2);
        int keep = b.keep(0, taken);
        CHECK.due("not, while it is IN none", b.x.ofProcedure(2, 5), 0);
        b.x.body(1, keep);
        CHECK.due("in a BODY", b.x.ofProcedure(2, 5), 1);
        CHECK.due("that alone", b.x.ofProcedure(1, 5), 0);
        b.x.body(1, b.perform(b.call(2)));
        CHECK.due("not any more", b.x.ofProcedure(2, 5), 0);
        b.x.body(1, b.keep(0, b.taken(0)));
        CHECK.due("a PROC that is TAKEN is no PROCEDURE", b.x.ofProcedure(2, 5), 0);
        b.x.body(0, keep);
        CHECK.due("unbound there", b.x.ofProcedure(2, 5), 0);
        b.x.procedure(0, 2);
        CHECK.due("another one of that NAME", b.x.ofProcedure(3, 5), 1);
        CHECK.due("not the one that this hides", b.x.ofProcedure(2, 5), 0);
        b.x.body(2, b.keep(0, b.taken(1)));
        CHECK.due("from INSIDE itself", b.x.ofProcedure(1, 5), 1);
        b.x.procedure(0, 5);
        b.x.parameter(4, 6, 1);
        b.x.body(3, b.keep(0, b.taken(5)));
        CHECK.due("though the TAKEN has a FAULT", b.x.ofProcedure(4, 5), 1);
    }

    private static void escapes() {
        CHECK.says("Something with a PLACE in a PROCEDURE ESCAPES, if a NODE whose NAME is this, "
            + "of whatever kind, is IN a PROCEDURE INSIDE it, and this one, or one that this is "
            + "INSIDE (but only such as are INSIDE the first one), is HANDED ON");
        // PROCEDURES 1 in MAIN, 2 in 1, 3 in 2; the NAME is 1's, and is used in one of them. Which
        // sets of those that are HANDED ON make it ESCAPE, by where the USE is.
        for (int user = 1; user <= 3; user++) {
            for (int taken = 0; taken < 16; taken++) {
                Build b = new Build();
                b.x.variable(0, 15, 2, 0);
                b.x.procedure(0, 1);
                b.x.variable(1, 9, 0, 0);
                b.x.procedure(1, 2);
                b.x.procedure(2, 3);
                b.x.procedure(1, 4);
                int[] body = new int[5];
                for (int p = 0; p <= 4; p++) {
                    body[p] = b.print(p == user ? b.use(9) : b.number(0));
                }
                // 1 is TAKEN in MAIN, 2 in 1, 3 in 2, and 4, that is beside 2, in 1.
                int[] names = {1, 2, 3, 4};
                int[] where = {0, 1, 2, 1};
                for (int k = 0; k < 4; k++) {
                    if ((taken >> k & 1) == 1) {
                        body[where[k]] = b.seq(body[where[k]], b.keep(15, b.taken(names[k])));
                    }
                }
                for (int p = 0; p <= 4; p++) {
                    b.x.body(p, body[p]);
                }
                boolean isOut = user == 2 && (taken & 2) != 0 || user == 3 && (taken & 6) != 0;
                CHECK.due("IN " + user + ", HANDED ON " + taken, b.x.ofProcedure(1, 4),
                    isOut ? 1 : 0);
                CHECK.due("many(6), besides MAIN's PROC", b.x.many(6) - b.x.ofProcedure(0, 4),
                    isOut ? 1 : 0);
            }
        }
    }

    private static void escapesOfWhateverKind() {
        CHECK.says("a NODE whose NAME is this, of whatever kind");
        int[] kinds = {1, 2, 8, 10, 11, 13, 14, 21};
        for (int kind : kinds) {
            for (int what = 0; what <= 3; what++) {
                Build b = new Build();
                b.x.variable(0, 0, 2, 0);
                b.x.procedure(0, 1);
                b.x.variable(1, 2, what, what == 1 ? 3 : 0);
                b.x.procedure(1, 3);
                b.x.body(1, b.keep(0, b.taken(3)));
                int part = kind == 2 || kind == 13 || kind == 14 ? b.number(0)
                    : kind == 21 ? b.taken(0) : kind == 8 ? -1 : 0;
                int n = b.x.node(kind, 2, part, kind == 14 ? b.number(1) : 0);
                boolean isHanded = kind == 10 || kind == 11;
                b.x.body(2, kind >= 12 ? n : isHanded ? b.perform(b.call(0, n)) : b.print(n));
                CHECK.due("kind " + kind + ", VARIABLE of KIND " + what, b.x.ofProcedure(1, 4),
                    what == 3 ? 0 : 1);
            }
        }
        Build c = new Build();
        c.x.variable(0, 0, 2, 0);
        c.x.procedure(0, 1);
        c.x.variable(1, 2, 0, 0);
        c.x.variable(1, 5, 0, 0);
        c.x.procedure(1, 3);
        c.x.variable(2, 2, 0, 0);
        c.x.body(1, c.keep(0, c.taken(3)));
        c.x.body(2, c.seq(c.print(c.use(2)), c.loop(5, c.number(0), c.leave(5))));
        CHECK.due("what hides it, and a LABEL, are something else", c.x.ofProcedure(1, 4), 0);
    }

    private static void passesAtFirst() {
        CHECK.says("PASSES: a set of 0 FOLD, 1 TAIL, 2 SLOTS (7 at first)");
        StaticLink x = new StaticLink();
        CHECK.due("at first", x.many(7), 7);
        CHECK.says("passes: the PASSES from now on; Returns those before");
        int before = 7;
        int[] all = {0, 1, 2, 3, 4, 5, 6, 7, 7, 0};
        for (int passes : all) {
            CHECK.due("passes(" + passes + ")", x.passes(passes), before);
            CHECK.due("many(7)", x.many(7), passes);
            before = passes;
        }
        int[] wrong = {-1, 8, Integer.MAX_VALUE, Integer.MIN_VALUE};
        for (int passes : wrong) {
            CHECK.argument("passes(" + passes + ")", () -> x.passes(passes));
            CHECK.due("many(7)", x.many(7), 0);
        }
        Build b = new Build();
        b.x.variable(0, 0, 0, 0);
        b.x.procedure(0, 1);
        b.x.body(1, b.give(b.call(1)));
        b.x.body(0, b.print(b.add(b.number(1), b.number(2))));
        for (int passes = 0; passes <= 7; passes++) {
            b.x.passes(passes);
            CHECK.due("FOLD of " + passes, b.x.ofProcedure(0, 7), (passes & 1) != 0 ? 4 : 6);
            CHECK.due("TAIL of " + passes, b.x.ofProcedure(1, 7), (passes & 2) != 0 ? 3 : 4);
            b.x.run();
            CHECK.due("SLOTS of " + passes, b.x.ofRun(6), (passes & 4) != 0 ? 0 : 1);
        }
    }

    /** With FOLDED NODES, TAILS, something that ESCAPES, and all that a run can do. */
    private static Build rich() {
        Build b = new Build();
        b.x.variable(0, 0, 2, 0);
        b.x.variable(0, 1, 0, 0);
        b.x.procedure(0, 2);
        b.x.parameter(1, 3, 0);
        b.x.procedure(0, 4);
        b.x.parameter(2, 5, 2);
        b.x.variable(2, 6, 0, 0);
        b.x.procedure(2, 7);
        b.x.body(1, b.when(b.use(3), b.give(b.call(2, b.sub(b.use(3), b.number(1)))),
            b.give(b.add(b.number(2), b.number(3)))));
        b.x.body(3, b.seq(b.set(6, b.add(b.use(6), b.use(5))), b.give(b.use(6))));
        b.x.body(2, b.seq(b.keep(0, b.taken(7)), b.give(b.mul(b.call(7), b.call(0)))));
        b.body(0, b.print(b.call(2, b.number(6))),
            b.print(b.call(4, b.mul(b.add(b.number(1), b.number(2)), b.number(4)))),
            b.print(b.call(0)), b.set(1, b.div(b.number(7), b.sub(b.number(3), b.number(1)))),
            b.print(b.use(1)));
        return b;
    }

    private static void passesChangeNothing() {
        CHECK.says("They change nothing of what is printed, of STEPS, DEPTH and TRAPS");
        Build all = rich();
        CHECK.due("run()", all.x.run(), 0);
        CHECK.due("printed", all.printed(), "5 288 36 3");
        int steps = all.x.ofRun(3);
        int depth = all.x.ofRun(8);
        int[] asked = {0, 1, 2, 3, 4, 5, 8, 9};
        // Each number of STEPS, so that each NODE is once the one that would be begun.
        for (int most = 1; most <= steps; most++) {
            all.x.passes(0);
            int[] want = new int[10];
            for (int what : asked) {
                want[what] = all.x.wouldRun(most, 20, what);
            }
            CHECK.due("TRAP with MOST " + most, want[0], most < steps ? 6 : 0);
            for (int passes = 1; passes <= 7; passes++) {
                all.x.passes(passes);
                for (int what : asked) {
                    CHECK.due("wouldRun(" + most + ", 20, " + what + ") with " + passes,
                        all.x.wouldRun(most, 20, what), want[what]);
                }
            }
        }
        for (int passes = 0; passes <= 7; passes++) {
            Build b = rich();
            b.x.passes(passes);
            b.x.limits(1000, depth);
            CHECK.due("run()", b.x.run(), 0);
            for (int k = 0; k < 4; k++) {
                CHECK.due("printed(" + k + ", 1)", b.x.printed(k, 1), all.x.printed(k, 1));
            }
            b.x.limits(1000, depth - 1);
            CHECK.due("DEEP is one less", b.x.run(), 7);
        }
    }

    private static void cells() {
        CHECK.says("CELLS of a run: with SLOTS, as a FRAME begins, one for each PLACE in it that "
            + "ESCAPES; otherwise one for each PLACE");
        Build b = new Build();
        b.x.variable(0, 0, 2, 0);
        b.x.procedure(0, 1);
        for (int k = 0; k < 4; k++) {
            b.x.parameter(1, 2 + k, 0);
        }
        b.x.variable(1, 6, 1, 8);
        b.x.variable(1, 7, 3, 5);
        b.x.variable(1, 8, 2, 0);
        b.x.procedure(1, 9);
        b.x.variable(2, 10, 0, 0);
        b.x.body(2, b.give(b.add(b.use(10), b.add(b.use(2), b.at(6, b.use(5))))));
        b.x.body(1, b.seq(b.keep(0, b.taken(9)), b.perform(b.call(9)), b.perform(b.call(9))));
        int call = b.call(1, b.number(1), b.number(2), b.number(3), b.number(4));
        b.x.body(0, b.seq(b.perform(call), b.perform(b.call(0))));
        // MAIN's PROC ESCAPES from nowhere: it is used in 1, that nobody TAKES. Of 1 three do.
        CHECK.due("MAIN", b.x.ofProcedure(0, 4), 0);
        CHECK.due("the one that is CALLED", b.x.ofProcedure(1, 4), 1 + 8 + 16);
        for (int passes = 0; passes <= 7; passes++) {
            b.x.passes(passes);
            CHECK.due("run()", b.x.run(), 0);
            CHECK.due("FRAMES", b.x.ofRun(5), 5);
            CHECK.due("CELLS with " + passes, b.x.ofRun(6),
                (passes & 4) != 0 ? 3 : 1 + 6 + 3 * 1);
        }
        // As a FRAME begins: those that the TRAP does not let begin have none.
        b.x.passes(0);
        b.x.limits(1000, 2);
        CHECK.due("run()", b.x.run(), 7);
        CHECK.due("CELLS of MAIN and 1", b.x.ofRun(6), 7);
        b.x.limits(1, 1);
        CHECK.due("run()", b.x.run(), 6);
        CHECK.due("CELLS of MAIN", b.x.ofRun(6), 1);
    }

    private static void live() {
        CHECK.says("LIVE: how many FRAMES there are in each other; with TAIL, the FRAME of a TAIL "
            + "does not count any more as soon as it has ended; otherwise till its CALL is over");
        // 1 CALLS 2 by a TAIL, that CALLS 3, that CALLS 4 by a TAIL; then 1 CALLS 5 by none.
        Build b = new Build();
        for (int k = 1; k <= 5; k++) {
            b.x.procedure(0, k);
        }
        b.x.body(1, b.give(b.call(2)));
        b.x.body(2, b.seq(b.perform(b.call(3)), b.perform(b.call(5))));
        b.x.body(3, b.give(b.call(4)));
        b.x.body(4, b.give(b.call(5)));
        b.x.body(5, b.print(b.number(1)));
        b.x.body(0, b.perform(b.call(1)));
        for (int passes = 0; passes <= 7; passes++) {
            b.x.passes(passes);
            CHECK.due("run()", b.x.run(), 0);
            CHECK.due("LIVE with " + passes, b.x.ofRun(7), (passes & 2) != 0 ? 3 : 6);
            CHECK.due("DEPTH with " + passes, b.x.ofRun(8), 6);
            CHECK.due("with(" + passes + ", 2)", b.x.with(passes, 2), (passes & 2) != 0 ? 3 : 6);
        }
        // The ARGUMENTS of a TAIL are reckoned while its FRAME counts yet.
        Build c = new Build();
        c.x.procedure(0, 1);
        c.x.procedure(0, 2);
        c.x.parameter(2, 3, 0);
        c.x.body(1, c.give(c.call(2, c.call(2, c.number(1)))));
        c.x.body(2, c.give(c.use(3)));
        c.x.body(0, c.give(c.call(1)));
        CHECK.due("run()", c.x.run(), 0);
        CHECK.due("LIVE", c.x.ofRun(7), 3);
        CHECK.due("MAIN gave", c.x.ofRun(9), 1);
        // Behind the CALL of a TAIL all is as before.
        c.x.body(0, c.seq(c.perform(c.call(1)), c.perform(c.call(1)), c.perform(c.call(1))));
        CHECK.due("run()", c.x.run(), 0);
        CHECK.due("LIVE", c.x.ofRun(7), 3);
        CHECK.due("DEPTH", c.x.ofRun(8), 3);
        c.x.body(0, c.print(c.number(0)));
        CHECK.due("MAIN alone", c.x.run(), 0);
        CHECK.due("LIVE", c.x.ofRun(7), 1);
        CHECK.due("DEPTH", c.x.ofRun(8), 1);
    }

    private static void folded() {
        CHECK.says("With FOLD a NODE 3 to 7 is FOLDED, if b and c are NUMBERS, or FOLDED, and it "
            + "is no DIV by 0");
        for (int kind = 3; kind <= 7; kind++) {
            Build b = new Build();
            b.x.variable(0, 0, 3, 4);
            int both = b.x.node(kind, 0, b.number(6), b.number(2));
            int left = b.x.node(kind, 0, b.use(0), b.number(2));
            int right = b.x.node(kind, 0, b.number(2), b.use(0));
            int zero = b.x.node(kind, 0, b.number(6), b.number(0));
            int zeroLeft = b.x.node(kind, 0, b.number(0), b.number(6));
            int nested = b.x.node(kind, 0, b.sub(b.number(1), b.number(9)), b.mul(b.number(2),
                b.number(2)));
            int zeroNested = b.x.node(kind, 0, b.number(1), b.sub(b.number(3), b.number(3)));
            int ofZero = b.x.node(kind, 0, zero, b.number(3));
            int call = b.x.node(kind, 0, b.call(1), b.number(1));
            int[] all = {both, left, right, zero, zeroLeft, nested, zeroNested, ofZero, call};
            String due = kind == 6 ? "100011000" : "100111110";
            for (int k = 0; k < all.length; k++) {
                CHECK.due("kind " + kind + ", " + k, b.x.ofNode(all[k], 5), due.charAt(k) - '0');
            }
        }
        int[] worth = {7, -3, 10, 0, 1};
        for (int kind = 3; kind <= 7; kind++) {
            Build b = new Build();
            b.x.body(0, b.print(b.x.node(kind, 0, b.number(2), b.number(5))));
            CHECK.due("PUSH of kind " + kind, b.x.code(0, 0, 1), worth[kind - 3]);
            CHECK.due("which", b.x.code(0, 0, 0), 1);
        }
    }

    private static void pushAndBack() {
        CHECK.says("The CODE of a PROCEDURE is that of its BODY, then PUSH 0, BACK");
        Build b = new Build();
        b.x.procedure(0, 0);
        b.x.body(0, b.give(b.number(5)));
        b.x.body(1, b.give(b.number(-999)));
        for (int p = 0; p <= 1; p++) {
            CHECK.due("CODE", b.code(p),
                "1 " + (p == 0 ? 5 : -999) + " 0 /2; 15 0 0 /0; 1 0 0 /0; 15 0 0 /0");
            CHECK.due("how long", b.x.ofProcedure(p, 7), 4);
        }
        CHECK.due("how long that of all is", b.x.many(10), 8);
    }

    /** The instruction of a PROCEDURE: which, and its operands. */
    private static String at(Build b, int p, int k) {
        return b.x.code(p, k, 0) + " " + b.x.code(p, k, 1) + " " + b.x.code(p, k, 2);
    }

    private static void operandsOfExpressions() {
        CHECK.says("x, y: HOPS and PLACE of a NAME");
        // MAIN has PLACES 0 to 5; each PROCEDURE INSIDE the one before.
        Build b = new Build();
        for (int k = 0; k < 6; k++) {
            b.x.variable(0, k, k % 2, k % 2);
        }
        for (int k = 1; k <= 9; k++) {
            b.x.procedure(k - 1, 15);
        }
        for (int p = 0; p <= 9; p++) {
            b.x.body(p, b.print(b.number(0)));
        }
        for (int p = 0; p <= 9; p += 3) {
            b.x.body(p, b.store(5, b.add(b.use(4), b.at(3, b.number(0))), b.number(1)));
            CHECK.due("GET from " + p, at(b, p, 0), "2 " + p + " 4");
            CHECK.due("PICK", at(b, p, 2), "3 " + p + " 3");
            CHECK.due("STOW", at(b, p, 5), "20 " + p + " 5");
            b.x.body(p, b.set(0, b.number(p)));
            CHECK.due("PUT", at(b, p, 1), "19 " + p + " 0");
        }
    }

    private static void operandsOfCalls() {
        CHECK.says("h, p: HOPS and number of a PROCEDURE");
        Build b = new Build();
        b.x.variable(0, 0, 2, 0);
        for (int k = 1; k <= 9; k++) {
            b.x.procedure(k - 1, k);
        }
        for (int p = 0; p <= 9; p++) {
            b.x.body(p, b.print(b.number(0)));
        }
        b.x.body(9, b.seq(b.perform(b.call(1)), b.perform(b.call(9)), b.perform(b.call(0)),
            b.keep(0, b.taken(1)), b.keep(0, b.taken(0))));
        CHECK.due("GO to the one of MAIN", at(b, 9, 0), "9 9 1");
        CHECK.due("DROP", at(b, 9, 1), "27 0 0");
        CHECK.due("GO to itself", at(b, 9, 2), "9 1 9");
        CHECK.due("GOTO", at(b, 9, 4), "10 9 0");
        CHECK.due("CLOSE", at(b, 9, 6), "18 9 1");
        CHECK.due("KEEP: PUT", at(b, 9, 7), "19 9 0");
        CHECK.due("a PROC: GET", at(b, 9, 8), "2 9 0");
        b.x.body(0, b.perform(b.call(1)));
        CHECK.due("GO, no HOPS", at(b, 0, 0), "9 0 1");
        b.x.body(8, b.give(b.call(8)));
        CHECK.due("JUMPTO", at(b, 8, 0), "11 1 8");
        CHECK.due("no BACK", at(b, 8, 1), "1 0 0");
    }

    private static void operandsOfWhatIsHandedOn() {
        CHECK.says("REF: 12 REF x y, or, of an AT, b, then 13 REFAT x y; BY NAME: 14 LATER t, its "
            + "code, 15 BACK, with t behind that; COPY 16 and ARRAY 17 x y");
        Build c = new Build();
        c.x.variable(0, 0, 0, 0);
        c.x.variable(0, 1, 1, 3);
        c.x.procedure(0, 2);
        int[] modes = {1, 1, 2, 3};
        for (int k = 0; k < 4; k++) {
            c.x.parameter(1, 3 + k, modes[k]);
        }
        c.x.procedure(1, 7);
        c.x.parameter(2, 8, 4);
        c.x.body(2, c.perform(c.call(7, c.array(1))));
        c.x.body(1, c.perform(c.call(2, c.use(0), c.at(1, c.number(2)), c.use(0), c.array(1))));
        c.x.body(0, c.perform(c.call(2, c.use(0), c.at(1, c.number(2)), c.use(0), c.array(1))));
        for (int p = 0; p <= 1; p++) {
            String[] due = {"12 " + p + " 0", "1 2 0", "13 " + p + " 1", "14 6 0",
                "2 " + p + " 0", "15 0 0", "16 " + p + " 1", "9 " + p + " 1", "27 0 0"};
            for (int k = 0; k < due.length; k++) {
                CHECK.due("instruction " + k + " of " + p, at(c, p, k), due[k]);
            }
        }
        CHECK.due("ARRAY", at(c, 2, 0), "17 2 1");
    }

    private static void jumps() {
        CHECK.says("t: a place in the CODE of this PROCEDURE; t is behind c (and SKIP), and behind "
            + "a; 22 SKIP to where b begins, 24 SHUT, with t there");
        Build b = new Build();
        b.x.procedure(0, 0);
        int[] second = {b.when(b.number(1), b.print(b.number(2)), -1),
            b.when(b.number(1), b.print(b.number(2)), b.print(b.number(3))),
            b.loop(4, b.number(1), b.print(b.number(2)))};
        b.x.body(0, b.print(b.number(9)));
        // Each one alone, behind a PRINT, and in the second PROCEDURE: t is counted in that.
        String[] due = {"1 1 0 /2; 21 4 0 /0; 1 2 0 /2; 26 0 0 /0",
            "1 1 0 /2; 21 5 0 /0; 1 2 0 /2; 26 0 0 /0; 22 7 0 /0; 1 3 0 /2; 26 0 0 /0",
            "23 4 0 /1; 1 1 0 /1; 21 6 0 /0; 1 2 0 /2; 26 0 0 /0; 22 1 0 /0; 24 0 0 /0"};
        for (int k = 0; k < 3; k++) {
            b.x.body(1, second[k]);
            CHECK.due("alone", b.code(1), due[k] + "; 1 0 0 /0; 15 0 0 /0");
        }
        b.x.body(1, b.print(b.number(1)));
        b.x.body(1, b.seq(b.print(b.number(0)), second[0], second[1], second[2]));
        CHECK.due("behind each other", b.code(1), "1 0 0 /3; 26 0 0 /0; "
            + "1 1 0 /3; 21 6 0 /0; 1 2 0 /2; 26 0 0 /0; "
            + "1 1 0 /3; 21 11 0 /0; 1 2 0 /2; 26 0 0 /0; 22 13 0 /0; 1 3 0 /2; 26 0 0 /0; "
            + "23 4 0 /1; 1 1 0 /1; 21 19 0 /0; 1 2 0 /2; 26 0 0 /0; 22 14 0 /0; 24 0 0 /0; "
            + "1 0 0 /0; 15 0 0 /0");
    }

    private static void leaves() {
        CHECK.says("of BREAK: 25 LEAVE 0 a, with a LOOP of its own, otherwise 25 LEAVE h a, with "
            + "the HOPS to the PROCEDURE with the LOOP");
        Build b = new Build();
        for (int k = 1; k <= 9; k++) {
            b.x.procedure(k - 1, 15);
        }
        for (int p = 0; p <= 9; p++) {
            b.x.body(p, b.leave(0));
        }
        b.x.body(0, b.loop(0, b.number(0), b.leave(0)));
        for (int p = 1; p <= 9; p++) {
            CHECK.due("from " + p, at(b, p, 0), "25 " + p + " 0");
        }
        b.x.body(4, b.loop(0, b.number(0), b.print(b.number(1))));
        CHECK.due("to the nearest one", at(b, 9, 0), "25 5 0");
        CHECK.due("not from around that", at(b, 3, 0), "25 3 0");
        int own = b.leave(9);
        b.x.body(9, b.loop(9, b.number(0), b.loop(0, b.number(0), own)));
        CHECK.due("LOOPS of its own, the second one around it", at(b, 9, 6), "25 0 9");
        b.x.body(9, b.seq(b.loop(0, b.number(0), b.print(b.number(2))), b.leave(0)));
        CHECK.due("a LOOP of its own that is not around it", at(b, 9, 7), "25 5 0");
    }

    private static void tailsAlone() {
        CHECK.says("of a RETURN that is a TAIL, with TAIL, 11 JUMPTO h p instead of that, and no "
            + "BACK");
        for (int passes = 0; passes <= 7; passes++) {
            Build b = new Build();
            b.x.passes(passes);
            b.x.variable(0, 9, 2, 0);
            b.x.procedure(0, 0);
            b.x.parameter(1, 1, 0);
            b.x.procedure(1, 2);
            b.x.body(2, b.give(b.call(0, b.number(4))));
            b.x.body(1, b.seq(b.give(b.call(0, b.call(0, b.use(1)))), b.give(b.call(2)),
                b.give(b.call(9)), b.give(b.add(b.call(2), b.number(0)))));
            b.x.body(0, b.give(b.call(0, b.number(1))));
            boolean isOn = (passes & 2) != 0;
            CHECK.due("a TAIL; a CALL in its ARGUMENT is none", b.code(1), "2 0 0 /7; 9 1 1 /0; "
                + (isOn ? "11 1 1 /0" : "9 1 1 /0; 15 0 0 /0")
                + "; 9 0 2 /3; 15 0 0 /0; 10 1 0 /3; 15 0 0 /0; "
                + "9 0 2 /3; 1 0 0 /1; 4 0 0 /0; 15 0 0 /0; 1 0 0 /0; 15 0 0 /0");
            CHECK.due("a TAIL of one INSIDE", b.code(2), "1 4 0 /4; "
                + (isOn ? "11 2 1 /0" : "9 2 1 /0; 15 0 0 /0") + "; 1 0 0 /0; 15 0 0 /0");
            CHECK.due("MAIN has none", b.code(0),
                "1 1 0 /4; 9 0 1 /0; 15 0 0 /0; 1 0 0 /0; 15 0 0 /0");
        }
    }

    private static void operandsThatAreNotNamed() {
        CHECK.says("Operands that are not named are 0");
        for (int passes = 0; passes <= 7; passes++) {
            Build b = rich();
            b.x.passes(passes);
            for (int p = 0; p < 4; p++) {
                for (int k = 0; k < b.x.ofProcedure(p, 7); k++) {
                    int op = b.x.code(p, k, 0);
                    boolean hasNone = op >= 4 && op <= 8 || op == 15 || op == 24 || op >= 26;
                    boolean hasOne = op == 1 || op == 14 || op >= 21 && op <= 23;
                    CHECK.due("first operand of " + op, hasNone ? b.x.code(p, k, 1) : 0, 0);
                    CHECK.due("second operand of " + op,
                        hasNone || hasOne ? b.x.code(p, k, 2) : 0, 0);
                }
            }
        }
    }

    private static int begin(Build b) {
        int all = 0;
        for (int p = 0; p < b.x.many(0); p++) {
            for (int k = 0; k < b.x.ofProcedure(p, 7); k++) {
                all += b.x.code(p, k, 3);
            }
        }
        return all;
    }

    private static void howManyBegin() {
        CHECK.says("3 how many NODES begin with it (those of which it is the first instruction; an "
            + "ARGUMENT BY NAME begins with its 14, its EXPRESSION with what is behind that; a "
            + "NODE that is FOLDED, and all that is in it, NUMBERS too, with its PUSH)");
        for (int passes = 0; passes <= 7; passes++) {
            Build b = rich();
            b.number(5);
            b.x.passes(passes);
            CHECK.due("each NODE that is IN one begins once", begin(b),
                b.x.many(1) - b.x.many(2));
        }
        Build b = new Build();
        b.x.procedure(0, 0);
        b.x.parameter(1, 1, 2);
        b.x.parameter(1, 2, 2);
        b.x.body(1, b.print(b.use(1)));
        b.x.body(0, b.print(b.call(0, b.add(b.number(1), b.mul(b.number(2), b.number(3))),
            b.call(0, b.number(4), b.use(3)))));
        b.x.variable(0, 3, 0, 0);
        CHECK.due("FOLDED and BY NAME", b.code(0), "14 3 0 /3; 1 7 0 /5; 15 0 0 /0; "
            + "14 12 0 /1; 14 7 0 /2; 1 4 0 /1; 15 0 0 /0; 14 10 0 /1; 2 0 0 /1; 15 0 0 /0; "
            + "9 0 1 /0; 15 0 0 /0; 9 0 1 /0; 26 0 0 /0; 1 0 0 /0; 15 0 0 /0");
        b.x.passes(6);
        CHECK.due("not FOLDED, BY NAME", b.x.code(0, 1, 3), 2);
        CHECK.due("the second NUMBER with its MUL", b.x.code(0, 2, 3), 2);
        CHECK.due("the third NUMBER", b.x.code(0, 3, 3), 1);
        CHECK.due("ADD", b.x.code(0, 5, 3), 0);
    }

    private static void noSuchPlace() {
        CHECK.says("Throws IndexOutOfBoundsException if there is no such PROCEDURE, or there are "
            + "FAULTS, or there is no such place; k: a place in its CODE, from 0");
        Build b = new Build();
        b.x.procedure(0, 0);
        b.x.body(0, b.print(b.number(1)));
        b.x.body(1, b.seq(b.print(b.number(1)), b.print(b.number(2))));
        CHECK.due("the first", b.x.code(0, 0, 0), 1);
        CHECK.due("the last", b.x.code(0, 3, 0), 15);
        CHECK.due("the last of the second", b.x.code(1, 5, 0), 15);
        int[] wrong = {-1, 4, 5, Integer.MAX_VALUE, Integer.MIN_VALUE};
        for (int k : wrong) {
            CHECK.bounds("code(0, " + k + ", 0)", () -> b.x.code(0, k, 0));
        }
        CHECK.bounds("code(1, 6, 0)", () -> b.x.code(1, 6, 0));
        int[] none = {-1, 2, 9, 10, Integer.MAX_VALUE, Integer.MIN_VALUE};
        for (int p : none) {
            CHECK.bounds("code(" + p + ", 0, 0)", () -> b.x.code(p, 0, 0));
        }
        int[] whats = {-1, 4, Integer.MAX_VALUE, Integer.MIN_VALUE};
        for (int what : whats) {
            CHECK.argument("code(0, 0, " + what + ")", () -> b.x.code(0, 0, what));
        }
        b.x.procedure(0, 1);
        CHECK.bounds("a FAULT elsewhere", () -> b.x.code(0, 0, 0));
        CHECK.due("how long, with FAULTS", b.x.ofProcedure(0, 7), 0);
    }

    // Whatever changes the program, what is asked then is found anew.
    private static void foundAnew() {
        CHECK.says("What a NAME is in a PROCEDURE; the CODE of a PROCEDURE is that of its BODY");
        Build b = new Build();
        b.x.variable(0, 0, 0, 0);
        b.x.procedure(0, 1);
        b.x.parameter(1, 2, 2);
        b.x.procedure(0, 3);
        b.x.body(1, b.print(b.use(2)));
        b.x.body(2, b.perform(b.call(1, b.use(0))));
        b.x.body(0, b.perform(b.call(3)));
        CHECK.due("BY NAME", b.x.ofProcedure(2, 7), 7);
        CHECK.due("FAULTS", b.x.many(3), 0);
        b.x.variable(2, 1, 2, 0);
        CHECK.due("a PROC hides it: by VALUE", b.code(2),
            "2 1 0 /4; 10 0 0 /0; 27 0 0 /0; 1 0 0 /0; 15 0 0 /0");
        b.x.parameter(1, 4, 0);
        CHECK.due("a PARAMETER more: nobody CALLS it yet", b.faults(), "");
        int call = b.call(1, b.use(0));
        CHECK.due("a NODE more", b.x.many(2), 3);
        b.x.body(0, b.perform(call));
        CHECK.due("an ARGUMENT fewer", b.faults(), "4 0 " + call);
        b.x.procedure(0, 9);
        b.x.parameter(3, 5, 0);
        CHECK.due("a PROCEDURE more", b.x.many(3), 2);
        b.x.body(3, b.perform(b.call(9)));
        CHECK.due("it CALLS itself", b.x.many(3), 2);
        Build c = new Build();
        c.x.procedure(0, 1);
        int own = c.call(1);
        c.x.body(1, c.give(own));
        c.x.body(0, c.print(c.number(1)));
        CHECK.due("no FAULT", c.x.many(3), 0);
        CHECK.due("a TAIL", c.x.many(4), 1);
        c.x.parameter(1, 2, 1);
        CHECK.due("a PARAMETER makes it a FAULT", c.faults(), "4 1 " + own);
        CHECK.due("and no TAIL", c.x.many(4), 0);
    }
}
