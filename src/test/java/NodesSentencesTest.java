/**
 * The sentences of sections 2 and 3, and those of promises 7 to 10, that name a boundary: each one
 * stands ahead of its checks. What is refused stands in RefusalsTest, too.
 */
public final class NodesSentencesTest {
    private static final Check CHECK = new Check("NodesSentencesTest");
    private static final int MOST = Integer.MAX_VALUE;
    private static final int LEAST = Integer.MIN_VALUE;

    public static void main(String[] args) {
        atMost110();
        numbers();
        labels();
        kinds();
        slots();
        smallerNumbers();
        partOfNoOther();
        noBody();
        twoPartsTheSame();
        whatIsNotTold();
        bodies();
        inNone();
        bodyBefore();
        withoutBody();
        orderOfFaults();
        oneFaultAtMost();
        faultsOfNames();
        howManyArguments();
        argumentsThatSuit();
        procsTakeExpressions();
        breaks();
        foldedAndTails();
        hopsOfNodes();
        faultAnswers();
        CHECK.end();
    }

    private static void refused(StaticLink x, int kind, int a, int b, int c) {
        CHECK.argument("node(" + kind + ", " + a + ", " + b + ", " + c + ")",
            () -> x.node(kind, a, b, c));
    }

    private static void atMost110() {
        CHECK.says("NODES: at most 110, numbered from 0");
        Build b = new Build();
        for (int k = 0; k < 110; k++) {
            CHECK.due("many(1)", b.x.many(1), k);
            CHECK.due("node", k % 2 == 0 ? b.number(k) : b.print(k - 1), k);
        }
        CHECK.state("one more", () -> b.x.node(0, 0, 0, 0));
        CHECK.state("one more, of a part that is free", () -> b.x.node(12, 0, 107, 109));
        CHECK.due("many(1)", b.x.many(1), 110);
        CHECK.due("the last one", b.x.ofNode(109, 0), 19);
        CHECK.bounds("none behind it", () -> b.x.ofNode(110, 0));
        CHECK.due("the last one is a BODY", b.x.body(0, 109), -1);
        CHECK.due("run()", b.x.run(), 0);
        CHECK.due("printed", b.printed(), "108");
    }

    private static void numbers() {
        CHECK.says("0 NUMBER a (-999 to 999)");
        StaticLink x = new StaticLink();
        int[] right = {-999, -998, -1, 0, 1, 998, 999};
        for (int v : right) {
            int n = x.node(0, v, 0, 0);
            CHECK.due("its a", x.ofNode(n, 1), v);
        }
        int[] wrong = {-1000, 1000, MOST, LEAST};
        for (int v : wrong) {
            refused(x, 0, v, 0, 0);
        }
    }

    private static void labels() {
        CHECK.says("the LABEL a (0 to 9)");
        Build b = new Build();
        int[] wrong = {-1, 10, MOST, LEAST};
        for (int label = 0; label <= 9; label++) {
            int leave = b.leave(label);
            CHECK.due("BREAK", b.x.ofNode(leave, 1), label);
            CHECK.due("LOOP", b.x.ofNode(b.loop(label, b.number(1), leave), 1), label);
        }
        int e = b.number(1);
        int s = b.leave(1);
        for (int label : wrong) {
            refused(b.x, 17, label, 0, 0);
            refused(b.x, 16, label, e, s);
        }
        CHECK.due("LOOP, of the same parts", b.loop(9, e, s), s + 1);
    }

    private static void kinds() {
        CHECK.says("kind is not 0 to 21");
        Build b = new Build();
        int e = b.number(1);
        int s = b.leave(1);
        int[] wrong = {-1, 22, MOST, LEAST};
        for (int kind : wrong) {
            refused(b.x, kind, 0, 0, 0);
            refused(b.x, kind, 0, e, 0);
            refused(b.x, kind, 0, e, s);
            refused(b.x, kind, 0, -1, 0);
        }
    }

    /** A free NODE of each kind: their numbers, by kind. */
    private static int[] palette(Build b) {
        int[] free = new int[22];
        free[0] = b.number(1);
        free[1] = b.use(1);
        free[2] = b.at(2, b.number(0));
        for (int kind = 3; kind <= 7; kind++) {
            free[kind] = b.x.node(kind, 0, b.number(1), b.number(2));
        }
        free[8] = b.call(3);
        free[9] = b.x.node(9, 0, b.number(1), -1);
        free[10] = b.taken(3);
        free[11] = b.array(2);
        free[12] = b.seq(b.leave(0), b.leave(1));
        free[13] = b.set(1, b.number(1));
        free[14] = b.store(2, b.number(0), b.number(1));
        free[15] = b.when(b.number(1), b.leave(0), -1);
        free[16] = b.loop(0, b.number(1), b.leave(0));
        free[17] = b.leave(2);
        free[18] = b.give(b.number(1));
        free[19] = b.print(b.number(1));
        free[20] = b.perform(b.call(3));
        free[21] = b.keep(4, b.taken(3));
        return free;
    }

    // By kind, what a, b and c are: e an EXPRESSION, s a STATEMENT, h what an ARGUMENT hands on,
    // A an ARGUMENT, c a CALL, t a TAKEN, each free; capital S and A may be NONE; n no NODE.
    private static final String[] SLOTS = {"nnn", "nnn", "nen", "nee", "nee", "nee", "nee", "nee",
        "nAn", "nhA", "nnn", "nnn", "nss", "nen", "nee", "Ses", "nes", "nnn", "nen", "nen", "ncn",
        "ntn"};

    private static boolean suits(char slot, int kind) {
        switch (slot) {
            case 'e': return kind <= 8;
            case 's': case 'S': return kind >= 12;
            case 'h': return kind <= 8 || kind == 10 || kind == 11;
            case 'A': return kind == 9;
            case 'c': return kind == 8;
            default: return kind == 10;
        }
    }

    /** Another free NODE for the slot, of a kind that suits; 0, if it is none. */
    private static int filler(Build b, char slot) {
        switch (slot) {
            case 'e': case 'h': return b.number(9);
            case 's': return b.leave(9);
            case 'S': case 'A': return -1;
            case 'c': return b.call(3);
            case 't': return b.taken(3);
            default: return 0;
        }
    }

    private static void slots() {
        CHECK.says("a part is no such NODE as it has to be");
        for (int kind = 0; kind <= 21; kind++) {
            for (int at = 0; at < 3; at++) {
                char slot = SLOTS[kind].charAt(at);
                for (int part = 0; part < 22 && slot != 'n'; part++) {
                    Build b = new Build();
                    int[] free = palette(b);
                    slot(b, kind, at, free[part], suits(slot, part));
                }
                int[] others = {-1, -2, 110, 109, MOST, LEAST};
                for (int other : others) {
                    boolean isRight = other == -1 && (slot == 'S' || slot == 'A');
                    if (slot != 'n') {
                        slot(new Build(), kind, at, other, isRight);
                    }
                }
            }
        }
    }

    private static void slot(Build b, int kind, int at, int part, boolean isRight) {
        int[] given = new int[3];
        for (int k = 0; k < 3; k++) {
            given[k] = k == at ? part : filler(b, SLOTS[kind].charAt(k));
        }
        String call = "node(" + kind + ", " + given[0] + ", " + given[1] + ", " + given[2] + ")";
        if (isRight) {
            int next = b.x.many(1);
            CHECK.due(call, b.x.node(kind, given[0], given[1], given[2]), next);
            for (int k = 0; k < 3; k++) {
                CHECK.due("ofNode", b.x.ofNode(next, 1 + k), given[k]);
            }
        } else {
            refused(b.x, kind, given[0], given[1], given[2]);
        }
    }

    private static void smallerNumbers() {
        CHECK.says("Where it is said that one of these is a NODE, that has a smaller number");
        Build b = new Build();
        refused(b.x, 18, 0, 0, 0);
        refused(b.x, 18, 0, 1, 0);
        int e = b.number(1);
        refused(b.x, 19, 0, 1, 0);
        refused(b.x, 3, 0, e, 1);
        refused(b.x, 3, 0, 1, e);
        int s = b.leave(0);
        refused(b.x, 15, 2, e, s);
        refused(b.x, 15, 3, e, s);
        refused(b.x, 8, 0, 2, 0);
        refused(b.x, 9, 0, e, 2);
        refused(b.x, 9, 0, 2, -1);
        CHECK.due("the one just ahead", b.print(e), 2);
    }

    private static void partOfNoOther() {
        CHECK.says("and is part of no other NODE");
        for (int kind = 0; kind <= 21; kind++) {
            for (int at = 0; at < 3; at++) {
                char slot = SLOTS[kind].charAt(at);
                if (slot == 'n') {
                    continue;
                }
                Build b = new Build();
                int part = filler(b, slot == 'S' ? 's' : slot);
                part = slot == 'A' ? b.x.node(9, 0, b.number(1), -1) : part;
                claim(b, part, slot);
                slot(b, kind, at, part, false);
            }
        }
    }

    /** Makes it part of another NODE. */
    private static void claim(Build b, int part, char slot) {
        switch (slot) {
            case 'e': case 'h': b.print(part); break;
            case 's': case 'S': b.seq(part, b.leave(0)); break;
            case 'A': b.x.node(8, 0, part, 0); break;
            case 'c': b.perform(part); break;
            default: b.keep(0, part); break;
        }
    }

    private static void noBody() {
        CHECK.says("and is part of no other NODE, nor a BODY");
        for (int kind = 12; kind <= 16; kind++) {
            for (int at = 0; at < 3; at++) {
                char slot = SLOTS[kind].charAt(at);
                if (slot == 's' || slot == 'S') {
                    Build b = new Build();
                    int part = b.leave(0);
                    b.x.body(0, part);
                    slot(b, kind, at, part, false);
                    b.x.body(0, b.leave(1));
                    slot(b, kind, at, part, true);
                }
            }
        }
    }

    private static void twoPartsTheSame() {
        CHECK.says("or two parts are the same");
        Build b = new Build();
        int e = b.number(1);
        int s = b.leave(1);
        for (int kind = 3; kind <= 7; kind++) {
            refused(b.x, kind, 0, e, e);
        }
        refused(b.x, 12, 0, s, s);
        refused(b.x, 14, 0, e, e);
        refused(b.x, 15, s, e, s);
        CHECK.due("what is no part may be the same", b.x.node(16, e, e, s), s + 1);
        int label = b.number(2);
        int two = b.leave(3);
        CHECK.due("a NAME that is a part's number", b.store(label, label, b.number(4)), two + 2);
        CHECK.due("NONE is no part", b.x.node(9, 0, b.number(5), -1), two + 4);
    }

    private static void whatIsNotTold() {
        CHECK.says("what is not told is 0");
        // By kind, which of a, b and c are told.
        String[] told = {"a..", "a..", "ab.", ".bc", ".bc", ".bc", ".bc", ".bc", "ab.", ".bc",
            "a..", "a..", ".bc", "ab.", "abc", "abc", "abc", "a..", ".b.", ".b.", ".b.", "ab."};
        for (int kind = 0; kind <= 21; kind++) {
            for (int at = 0; at < 3; at++) {
                if (told[kind].charAt(at) != '.') {
                    continue;
                }
                Build b = new Build();
                int free = b.number(4);
                int freeToo = b.leave(4);
                int[] wrong = {1, -1, free + 1, freeToo, MOST, LEAST};
                for (int other : wrong) {
                    slot(b, kind, at, other, false);
                }
                slot(b, kind, at, 0, true);
            }
        }
    }

    private static void bodies() {
        CHECK.says("A STATEMENT that is part of no other NODE can be the BODY of a PROCEDURE");
        for (int kind = 0; kind <= 21; kind++) {
            Build b = new Build();
            int n = palette(b)[kind];
            if (kind >= 12) {
                CHECK.due("body, kind " + kind, b.x.body(0, n), -1);
                CHECK.due("its BODY", b.x.ofProcedure(0, 6), n);
                CHECK.state("it is a BODY", () -> b.x.body(0, n));
            } else {
                CHECK.argument("body, kind " + kind, () -> b.x.body(0, n));
                CHECK.due("none", b.x.ofProcedure(0, 6), -1);
            }
        }
        Build c = new Build();
        int part = c.leave(0);
        c.seq(part, c.leave(1));
        CHECK.state("part of a NODE", () -> c.x.body(0, part));
    }

    private static void inNone() {
        CHECK.says("A NODE is IN the PROCEDURE of whose BODY it is part (NONE)");
        Build b = new Build();
        b.x.procedure(0, 0);
        int deep = b.number(1);
        int list = b.x.node(9, 0, deep, -1);
        int call = b.x.node(8, 1, list, 0);
        int otherwise = b.leave(1);
        int then = b.leave(2);
        int loop = b.loop(1, b.number(2), b.when(call, then, otherwise));
        int[] all = {deep, list, call, otherwise, then, loop};
        for (int n : all) {
            CHECK.due("IN none yet", b.x.ofNode(n, 4), -1);
        }
        CHECK.due("many(2)", b.x.many(2), 8);
        b.x.body(1, loop);
        for (int n : all) {
            CHECK.due("IN 1", b.x.ofNode(n, 4), 1);
        }
        CHECK.due("many(2)", b.x.many(2), 0);
        b.x.body(1, b.leave(3));
        for (int n : all) {
            CHECK.due("IN none again", b.x.ofNode(n, 4), -1);
        }
        CHECK.due("many(2)", b.x.many(2), 8);
        b.x.body(0, loop);
        for (int n : all) {
            CHECK.due("IN MAIN", b.x.ofNode(n, 4), 0);
        }
    }

    private static void bodyBefore() {
        CHECK.says("Sets the BODY of a PROCEDURE; the one before is part of nothing then. Returns "
            + "the one before (NONE)");
        Build b = new Build();
        b.x.procedure(0, 0);
        int one = b.leave(0);
        int two = b.leave(1);
        CHECK.due("none before", b.x.body(0, one), -1);
        CHECK.due("none before, of another PROCEDURE", b.x.body(1, two), -1);
        int three = b.leave(2);
        CHECK.due("one before", b.x.body(0, three), one);
        CHECK.due("it can be a BODY again", b.x.body(1, one), two);
        CHECK.due("or part of a NODE", b.seq(two, b.leave(3)), two + 3);
        CHECK.state("then it is that", () -> b.x.body(0, two));
        CHECK.due("the one before", b.x.body(0, two + 3), three);
    }

    private static void withoutBody() {
        CHECK.says("FAULTS are told PROCEDURE by PROCEDURE (10: without a BODY, with NONE as its "
            + "NODE)");
        Build b = new Build();
        for (int k = 0; k < 9; k++) {
            b.x.procedure(k, 0);
        }
        CHECK.due("all", b.x.many(3), 10);
        for (int k = 0; k < 10; k++) {
            CHECK.due("which", b.x.fault(k, 0), 10);
            CHECK.due("its PROCEDURE", b.x.fault(k, 1), k);
            CHECK.due("its NODE", b.x.fault(k, 2), -1);
        }
        for (int p = 9; p >= 0; p--) {
            b.x.body(p, b.print(b.number(p)));
            CHECK.due("left", b.x.many(3), p);
        }
        b.x.body(5, b.print(b.use(15)));
        CHECK.due("one NODE", b.faults(), "1 5 " + (b.x.many(1) - 2));
    }

    private static void orderOfFaults() {
        CHECK.says("of its BODY, NODE by NODE, each ahead of its parts, and these in the order a, "
            + "b, c, each with all that is in it");
        Build b = new Build();
        // Made in another order than they are told.
        int inC = b.use(1);
        int c = b.set(2, inC);
        int inB = b.use(3);
        int bPart = b.at(4, inB);
        int inA = b.use(5);
        int a = b.set(6, inA);
        int when = b.when(bPart, c, a);
        int second = b.use(7);
        int first = b.use(8);
        int store = b.store(9, first, second);
        int inLoop = b.store(10, b.number(1), b.number(2));
        int turn = b.use(11);
        int loop = b.loop(0, turn, inLoop);
        b.x.body(0, b.seq(when, store, loop));
        int[] due = {a, inA, bPart, inB, c, inC, store, first, second, turn, inLoop};
        CHECK.due("how many", b.x.many(3), due.length);
        for (int k = 0; k < due.length; k++) {
            CHECK.due("the NODE of FAULT " + k, b.x.fault(k, 2), due[k]);
        }
        Build d = new Build();
        int last = d.use(3);
        int call = d.call(4, d.use(1), d.use(2), last);
        d.x.body(0, d.print(call));
        int k = 1;
        CHECK.due("the CALL ahead of its ARGUMENTS", d.x.fault(0, 2), call);
        for (int at = d.x.ofNode(call, 2); at != -1; at = d.x.ofNode(at, 3)) {
            CHECK.due("the NAME of ARGUMENT " + k, d.x.ofNode(d.x.fault(k, 2), 1), k);
            k++;
        }
        CHECK.due("how many", d.x.many(3), 4);
    }

    private static void oneFaultAtMost() {
        CHECK.says("A NODE has one FAULT at most, the first of");
        Build b = declared();
        int one = b.call(15, b.number(1), b.array(1));
        b.x.body(1, b.print(one));
        CHECK.due("1 ahead of 4 and 5; the ARRAY NAME its own", b.faults(),
            "1 1 " + one + "; 2 1 " + (one - 3));
        int two = b.call(0, b.number(1), b.taken(8));
        b.x.body(1, b.print(two));
        CHECK.due("2 ahead of 5", b.faults(), "2 1 " + two);
        int four = b.call(10, b.taken(8));
        b.x.body(1, b.print(four));
        CHECK.due("4 ahead of 5", b.faults(), "4 1 " + four);
        int five = b.call(8, b.taken(8), b.array(7));
        b.x.body(1, b.print(five));
        CHECK.due("5, once for two that do not suit", b.faults(), "5 1 " + five);
        int set = b.set(15, b.number(1));
        b.x.body(1, set);
        CHECK.due("1 ahead of 3", b.faults(), "1 1 " + set);
    }

    // PROCEDURE 1 has a NAME of each sort: 0 to 5 the PARAMETERS of it and of the one around it,
    // 6 to 9 VARIABLES, 10 a PROCEDURE without PARAMETERS, 11 one with a REF.
    private static Build declared() {
        Build b = new Build();
        b.x.procedure(0, 14);
        for (int mode = 0; mode <= 3; mode++) {
            b.x.parameter(1, mode, mode);
        }
        for (int kind = 0; kind <= 3; kind++) {
            b.x.variable(1, 6 + kind, kind, kind == 1 ? 4 : 0);
        }
        b.x.procedure(1, 10);
        b.x.procedure(1, 11);
        b.x.parameter(3, 0, 1);
        b.x.procedure(1, 12);
        b.x.parameter(4, 4, 4);
        b.x.parameter(4, 5, 5);
        int[] others = {0, 2, 3, 4};
        for (int p : others) {
            b.x.body(p, b.print(b.number(1)));
        }
        return b;
    }

    /** A NODE of the kind with the NAME; [0] itself, [1] a STATEMENT around it. */
    private static int[] named(Build b, int kind, int name) {
        int n;
        switch (kind) {
            case 1: n = b.use(name); return new int[] {n, b.print(n)};
            case 2: n = b.at(name, b.number(0)); return new int[] {n, b.print(n)};
            case 8: n = b.call(name); return new int[] {n, b.print(n)};
            case 10: n = b.taken(name); return new int[] {n, b.keep(8, n)};
            case 11: n = b.array(name);
                return new int[] {n, b.perform(b.call(12, n, b.taken(8)))};
            case 13: n = b.set(name, b.number(0)); break;
            case 14: n = b.store(name, b.number(0), b.number(0)); break;
            default: n = b.keep(name, b.taken(8)); break;
        }
        return new int[] {n, n};
    }

    private static void faultsOfNames() {
        CHECK.says("1 its NAME is unbound; 2 it is not what it has to be (section 2; TAKEN also of "
            + "a PROCEDURE of whose PARAMETERS one is no VALUE); 3 (SET) it is a CONSTANT, or BY "
            + "NAME");
        int[] kinds = {1, 2, 8, 10, 11, 13, 14, 21};
        // Of VALUE REF BYNAME COPY ARRAY PROC NUMBER ARRAY PROC CONSTANT, a PROCEDURE, one with a
        // REF, and what is unbound. That a CALL of the one with a REF has no ARGUMENT is 4.
        String[] due = {"0002220220221", "2220022022221", "2222202202041", "2222202202021",
            "2220022022221", "0032220223221", "2220022022221", "2222222202221"};
        for (int k = 0; k < kinds.length; k++) {
            for (int name = 0; name <= 13; name++) {
                if (name == 12) {
                    continue;
                }
                Build b = declared();
                // The PARAMETERS 4 and 5 are those of PROCEDURE 4.
                int p = name == 4 || name == 5 ? 4 : 1;
                int[] made = named(b, kinds[k], name);
                b.x.body(p == 1 ? 4 : 1, b.print(b.number(2)));
                b.x.body(p, made[1]);
                char which = due[k].charAt(name == 13 ? 12 : name);
                CHECK.due("kind " + kinds[k] + " of the NAME " + name, b.faults(),
                    which == '0' ? "" : which + " " + p + " " + made[0]);
            }
        }
        for (int mode = 0; mode <= 5; mode++) {
            for (int place = 0; place <= 3; place++) {
                takenWith(mode, place);
            }
        }
    }

    private static void takenWith(int mode, int place) {
        Build b = new Build();
        b.x.variable(0, 0, 2, 0);
        b.x.procedure(0, 1);
        for (int k = 0; k < 4; k++) {
            b.x.parameter(1, 2 + k, k == place ? mode : 0);
        }
        b.x.body(1, b.print(b.number(1)));
        int taken = b.taken(1);
        b.x.body(0, b.keep(0, taken));
        CHECK.due("TAKEN, PARAMETER " + place + " is of MODE " + mode, b.faults(),
            mode == 0 ? "" : "2 0 " + taken);
    }

    private static void howManyArguments() {
        CHECK.says("4 (CALL of a PROCEDURE) there are fewer or more ARGUMENTS than PARAMETERS");
        for (int parameters = 0; parameters <= 4; parameters++) {
            for (int given = 0; given <= 6; given++) {
                Build b = new Build();
                b.x.procedure(0, 0);
                for (int k = 0; k < parameters; k++) {
                    b.x.parameter(1, 1 + k, 0);
                }
                b.x.body(1, b.print(b.number(1)));
                int[] handed = new int[given];
                for (int k = 0; k < given; k++) {
                    handed[k] = b.number(k);
                }
                int call = b.call(0, handed);
                b.x.body(0, b.print(call));
                CHECK.due(given + " for " + parameters, b.faults(),
                    given == parameters ? "" : "4 0 " + call);
            }
        }
    }

    private static int handed(Build b, int which) {
        switch (which) {
            case 0: return b.number(1);
            case 1: return b.use(0);
            case 2: return b.at(1, b.number(0));
            case 3: return b.add(b.number(1), b.number(2));
            case 4: return b.less(b.number(1), b.number(2));
            case 5: return b.call(5);
            case 6: return b.taken(2);
            case 7: return b.array(1);
            default: return b.use(3);
        }
    }

    private static void argumentsThatSuit() {
        CHECK.says("REF needs a USE of what could be SET (so none that is unbound), or an AT; BY "
            + "NAME and VALUE an EXPRESSION; COPY and ARRAY an ARRAY NAME; PROC a TAKEN");
        // By MODE: a NUMBER, a USE, an AT, ADD, LESS, a CALL, a TAKEN, an ARRAY NAME, a CONSTANT.
        String[] suits = {"111111001", "011000000", "111111001", "000000010", "000000010",
            "000000100"};
        for (int mode = 0; mode <= 5; mode++) {
            for (int which = 0; which <= 8; which++) {
                for (int place = 0; place <= 1; place++) {
                    Build b = forCalls(mode, place);
                    int part = handed(b, which);
                    int call = place == 0 ? b.call(4, part, b.number(1))
                        : b.call(4, b.number(1), part);
                    b.x.body(0, b.print(call));
                    CHECK.due("MODE " + mode + ", handed " + which, b.faults(),
                        suits[mode].charAt(which) == '1' ? "" : "5 0 " + call);
                }
            }
        }
        refNeedsWhatCouldBeSet();
    }

    private static Build forCalls(int mode, int place) {
        Build b = new Build();
        b.x.variable(0, 0, 0, 0);
        b.x.variable(0, 1, 1, 2);
        b.x.variable(0, 2, 2, 0);
        b.x.variable(0, 3, 3, 5);
        b.x.procedure(0, 4);
        b.x.parameter(1, 10, place == 0 ? mode : 0);
        b.x.parameter(1, 11, place == 1 ? mode : 0);
        b.x.procedure(0, 5);
        b.x.body(1, b.print(b.number(1)));
        b.x.body(2, b.print(b.number(1)));
        return b;
    }

    private static void refNeedsWhatCouldBeSet() {
        CHECK.says("REF needs a USE of what could be SET (so none that is unbound), or an AT; a "
            + "REF that is handed a CONSTANT is 5, told of the CALL");
        // Of VALUE REF BYNAME COPY ARRAY PROC NUMBER ARRAY PROC CONSTANT PROCEDURE, unbound; what
        // a USE cannot be at all is told of the USE, too.
        String due = "005555055555";
        String use = "000222022021";
        for (int name = 0; name <= 11; name++) {
            Build b = declared();
            int p = name == 4 || name == 5 ? 4 : 1;
            int part = b.use(name == 11 ? 13 : name);
            int call = b.call(11, part);
            b.x.body(p == 1 ? 4 : 1, b.print(b.number(2)));
            b.x.body(p, b.print(call));
            String want = due.charAt(name) == '0' ? "" : "5 " + p + " " + call;
            want += name == 10 ? "; 2 " + p + " " + part
                : use.charAt(name) == '0' ? "" : "; " + use.charAt(name) + " " + p + " " + part;
            CHECK.due("a REF, of the NAME " + name, b.faults(), want);
            Build c = declared();
            int at = c.at(13, c.number(0));
            c.x.body(1, c.print(c.call(11, at)));
            CHECK.due("an AT suits, though it is unbound", c.faults(), "1 1 " + at);
        }
    }

    private static void procsTakeExpressions() {
        CHECK.says("(CALL of a PROC) EXPRESSIONS alone suit");
        String suits = "111111001";
        for (int which = 0; which <= 8; which++) {
            for (int given = 1; given <= 5; given++) {
                Build b = forCalls(0, 0);
                int[] all = new int[given];
                for (int k = 0; k < given; k++) {
                    all[k] = k == given - 1 ? handed(b, which) : b.number(k);
                }
                int call = b.call(2, all);
                b.x.body(0, b.print(call));
                CHECK.due("a PROC, the last one of " + given + " is " + which, b.faults(),
                    suits.charAt(which) == '1' ? "" : "5 0 " + call);
            }
        }
        Build c = forCalls(0, 0);
        c.x.body(0, c.print(c.call(2)));
        CHECK.due("a PROC without ARGUMENTS", c.faults(), "");
    }

    private static void breaks() {
        CHECK.says("6 (BREAK) no LOOP with that LABEL is in this PROCEDURE around it, nor anywhere "
            + "in the BODY of a PROCEDURE that this is INSIDE");
        for (int label = 0; label <= 9; label++) {
            Build b = new Build();
            int alone = b.leave(label);
            b.x.body(0, b.seq(b.loop(label, b.number(0), b.print(b.number(1))), alone));
            CHECK.due("beside it", b.faults(), "6 0 " + alone);
            b.x.body(0, b.loop(label, b.number(0), b.leave(label)));
            CHECK.due("around it", b.faults(), "");
            int other = b.leave((label + 1) % 10);
            b.x.body(0, b.loop(label, b.number(0), other));
            CHECK.due("with another LABEL", b.faults(), "6 0 " + other);
        }
        for (int owner = 0; owner <= 3; owner++) {
            Build b = new Build();
            b.x.procedure(0, 0);
            b.x.procedure(1, 1);
            b.x.procedure(0, 2);
            // A LOOP in one of the PROCEDURES; a BREAK in each one of the others.
            String want = "";
            for (int p = 0; p <= 3; p++) {
                int leave = b.leave(9);
                b.x.body(p, p == owner ? b.loop(9, b.number(0), leave) : leave);
                boolean isInside = owner == 0 || owner == 1 && p == 2 || p == owner;
                want += isInside ? "" : (want.isEmpty() ? "6 " : "; 6 ") + p + " " + leave;
            }
            CHECK.due("a LOOP in " + owner + " alone", b.faults(), want);
        }
        Build c = new Build();
        c.x.procedure(0, 0);
        int inner = c.leave(1);
        c.x.body(1, inner);
        c.loop(1, c.number(1), c.print(c.number(1)));
        c.x.body(0, c.print(c.number(1)));
        CHECK.due("a LOOP that is IN none", c.faults(), "6 1 " + inner);
    }

    private static void foldedAndTails() {
        CHECK.says("5 1 if it is FOLDED (whatever PASSES are on), otherwise 0, 6 1 if it is a TAIL "
            + "(likewise; 0 if it is IN none, or its NAME is unbound)");
        for (int passes = 0; passes <= 7; passes++) {
            Build b = new Build();
            b.x.passes(passes);
            b.x.procedure(0, 0);
            int sum = b.add(b.number(1), b.number(2));
            int tail = b.give(b.call(0));
            int unbound = b.give(b.call(1));
            CHECK.due("FOLDED, IN none", b.x.ofNode(sum, 5), 1);
            CHECK.due("TAIL, IN none", b.x.ofNode(tail, 6), 0);
            b.x.body(1, b.seq(b.print(sum), tail, unbound));
            CHECK.due("FOLDED, with " + passes, b.x.ofNode(sum, 5), 1);
            CHECK.due("a NUMBER is not FOLDED", b.x.ofNode(sum - 1, 5), 0);
            CHECK.due("TAIL, with " + passes, b.x.ofNode(tail, 6), 1);
            CHECK.due("TAIL, unbound", b.x.ofNode(unbound, 6), 0);
            CHECK.due("many(4)", b.x.many(4), 1);
            CHECK.due("many(5)", b.x.many(5), 1);
            b.x.procedure(0, 1);
            CHECK.due("no longer unbound", b.x.ofNode(unbound, 6), 1);
        }
        // What a TAIL is does not ask whether its CALL has another FAULT.
        Build c = new Build();
        c.x.variable(0, 9, 1, 2);
        c.x.procedure(0, 0);
        c.x.parameter(1, 1, 0);
        int[] calls = {c.call(0), c.call(0, c.number(1), c.number(2)), c.call(0, c.array(9)),
            c.call(0, c.use(15)), c.call(0, c.number(1))};
        String[] faults = {"4 1 ", "4 1 ", "5 1 ", "1 1 ", ""};
        for (int k = 0; k < calls.length; k++) {
            int give = c.give(calls[k]);
            c.x.body(0, c.print(c.number(0)));
            c.x.body(1, give);
            CHECK.due("its FAULT", c.faults(), faults[k].isEmpty() ? ""
                : faults[k] + (k == 3 ? c.x.ofNode(c.x.ofNode(calls[k], 2), 2) : calls[k]));
            CHECK.due("TAIL, with FAULT " + faults[k], c.x.ofNode(give, 6), 1);
            CHECK.due("many(4)", c.x.many(4), 1);
        }
    }

    private static void hopsOfNodes() {
        CHECK.says("7 the HOPS of its NAME (NONE, if it is IN none, has no NAME, or that is "
            + "unbound)");
        for (int kind = 0; kind <= 21; kind++) {
            Build b = new Build();
            b.x.procedure(0, 9);
            b.x.procedure(1, 9);
            int n = palette(b)[kind];
            CHECK.due("IN none, kind " + kind, b.x.ofNode(n, 7), -1);
            int whole = kind >= 12 ? n : kind == 9 ? b.print(b.x.node(8, 3, n, 0))
                : kind >= 10 ? b.perform(b.x.node(8, 3, b.x.node(9, 0, n, -1), 0)) : b.print(n);
            b.x.body(2, whole);
            boolean isNamed = kind == 1 || kind == 2 || kind == 8 || kind == 10 || kind == 11
                || kind == 13 || kind == 14 || kind == 21;
            CHECK.due("unbound, kind " + kind, b.x.ofNode(n, 7), -1);
            for (int name = 0; name <= 4; name++) {
                b.x.variable(0, name, 0, 0);
            }
            CHECK.due("MAIN's, kind " + kind, b.x.ofNode(n, 7), isNamed ? 2 : -1);
            for (int name = 0; name <= 4; name++) {
                b.x.variable(2, name, 0, 0);
            }
            CHECK.due("its own, kind " + kind, b.x.ofNode(n, 7), isNamed ? 0 : -1);
        }
    }

    private static void faultAnswers() {
        CHECK.says("0 which one (1 to 6, 10), 1 its PROCEDURE, 2 its NODE (NONE)");
        Build b = declared();
        int[] made = {b.print(b.use(15)), b.print(b.use(7)), b.set(9, b.number(1)),
            b.print(b.call(10, b.number(1))), b.print(b.call(11, b.number(1))), b.leave(3)};
        b.x.body(1, b.seq(made));
        b.x.procedure(0, 0);
        int[] nodes = {made[0] - 1, made[1] - 1, made[2], made[3] - 1, made[4] - 1, made[5], -1};
        int[] which = {1, 2, 3, 4, 5, 6, 10};
        for (int k = 0; k < 7; k++) {
            CHECK.due("fault(" + k + ", 0)", b.x.fault(k, 0), which[k]);
            CHECK.due("fault(" + k + ", 1)", b.x.fault(k, 1), k == 6 ? 5 : 1);
            CHECK.due("fault(" + k + ", 2)", b.x.fault(k, 2), nodes[k]);
        }
        CHECK.bounds("no such FAULT", () -> b.x.fault(7, 0));
    }
}
