/**
 * The sentences of "Terms" and of section 1, and those of promises 1 to 6, that name a boundary:
 * each one stands ahead of its checks. What is refused stands in RefusalsTest, too.
 */
public final class NamesSentencesTest {
    private static final Check CHECK = new Check("NamesSentencesTest");
    private static final int MOST = Integer.MAX_VALUE;
    private static final int LEAST = Integer.MIN_VALUE;

    public static void main(String[] args) {
        numbersGoRound();
        foldedNumbersGoRound();
        divisionIsCut();
        setsAreSums();
        namesAre0To15();
        atMostTenProcedures();
        parentsHaveSmallerNumbers();
        insideWhateverThatIsInside();
        atMostFourParameters();
        atMostSixVariables();
        noNameTwice();
        modesAndKinds();
        sizesOfArrays();
        atFirst();
        places();
        whatANameIs();
        hops();
        newObject();
        returnsOfDeclarations();
        ofName();
        ofProcedure();
        CHECK.end();
    }

    /** What the EXPRESSION gives in a run; its NUMBERS and NAMES are told to b. */
    private static int given(Build b, int expression) {
        b.x.body(0, b.give(expression));
        CHECK.due("run()", b.x.run(), 0);
        return b.x.ofRun(9);
    }

    /** SETS the NAME to 2^k, by doubling. */
    private static int power(Build b, int name, int k) {
        int all = b.set(name, b.number(1));
        for (int doubled = 0; doubled < k; doubled++) {
            all = b.seq(all, b.set(name, b.add(b.use(name), b.use(name))));
        }
        return all;
    }

    private static void numbersGoRound() {
        CHECK.says("All numbers are whole, and go round as ints do");
        int[] kinds = {4, 3, 5, 6, 7};
        // Of 2^31, that is the least int, and 1, 0 less it, -1 and itself.
        int[] want = {MOST, LEAST, LEAST, LEAST, 1};
        for (int k = 0; k < kinds.length; k++) {
            Build b = new Build();
            b.x.variable(0, 0, 0, 0);
            b.x.variable(0, 1, 0, 0);
            b.x.variable(0, 2, 0, 0);
            int loop = b.loop(0, b.less(b.use(1), b.number(31)),
                b.seq(b.count(1), b.set(0, b.add(b.use(0), b.use(0)))));
            int last;
            switch (kinds[k]) {
                case 4: last = b.sub(b.use(0), b.number(1)); break;
                case 3: last = b.add(b.sub(b.use(0), b.number(1)), b.number(1)); break;
                case 5: last = b.mul(b.use(0), b.number(-1)); break;
                case 6: last = b.div(b.use(0), b.number(-1)); break;
                default: last = b.less(b.use(0), b.sub(b.use(0), b.number(1))); break;
            }
            b.body(0, b.set(0, b.number(1)), loop, b.give(last));
            CHECK.due("run()", b.x.run(), 0);
            CHECK.due("kind " + kinds[k], b.x.ofRun(9), want[k]);
        }
        Build c = new Build();
        c.x.variable(0, 0, 0, 0);
        c.body(0, power(c, 0, 16), c.give(c.mul(c.use(0), c.use(0))));
        c.x.run();
        CHECK.due("2^16 by 2^16", c.x.ofRun(9), 0);
    }

    /** 2^31, of NUMBERS alone: the least int. */
    private static int least(Build b) {
        return b.mul(b.mul(b.number(512), b.number(512)), b.mul(b.number(512), b.number(16)));
    }

    private static void foldedNumbersGoRound() {
        CHECK.says("All numbers are whole, and go round as ints do");
        for (int kind = 3; kind <= 6; kind++) {
            Build b = new Build();
            int one = b.number(kind <= 4 ? 1 : -1);
            int n = kind == 3 ? b.add(b.sub(least(b), b.number(1)), one)
                : b.x.node(kind, 0, least(b), one);
            CHECK.due("what is FOLDED, kind " + kind + ", in a run", given(b, n),
                kind == 4 ? MOST : LEAST);
            CHECK.due("FOLDED", b.x.ofNode(n, 5), 1);
            CHECK.due("its PUSH", b.x.code(0, 0, 1), kind == 4 ? MOST : LEAST);
        }
        Build c = new Build();
        int less = c.less(least(c), c.sub(least(c), c.number(1)));
        c.x.body(0, c.give(less));
        CHECK.due("the least int is less than the greatest", c.x.code(0, 0, 1), 1);
    }

    private static void divisionIsCut() {
        CHECK.says("/ is cut towards 0");
        int[][] rows = {{7, 2, 3}, {-7, 2, -3}, {7, -2, -3}, {-7, -2, 3}, {1, 2, 0}, {-1, 2, 0},
            {1, -2, 0}, {-1, -2, 0}, {998, 999, 0}, {-999, 999, -1}, {-998, 999, 0}, {0, -5, 0},
            {6, -3, -2}};
        for (int[] row : rows) {
            Build b = new Build();
            int div = b.div(b.number(row[0]), b.number(row[1]));
            CHECK.due(row[0] + " / " + row[1], given(b, div), row[2]);
            CHECK.due(row[0] + " / " + row[1] + ", FOLDED", b.x.code(0, 0, 1), row[2]);
        }
    }

    private static void setsAreSums() {
        CHECK.says("Sets are told as numbers: the sum of 2^k for each k in them");
        Build b = new Build();
        b.x.procedure(0, 0);
        b.x.parameter(1, 1, 0);
        b.x.parameter(1, 2, 1);
        b.x.parameter(1, 3, 2);
        b.x.parameter(1, 4, 4);
        for (int k = 0; k < 6; k++) {
            b.x.variable(1, 5 + k, 0, 0);
        }
        b.x.procedure(1, 15);
        b.x.body(1, b.perform(b.call(9, b.taken(15))));
        CHECK.due("none", b.x.ofProcedure(1, 4), 0);
        b.body(2, b.print(b.use(1)));
        CHECK.due("PLACE 0", b.x.ofProcedure(1, 4), 1);
        b.body(2, b.print(b.use(10)));
        CHECK.due("PLACE 9", b.x.ofProcedure(1, 4), 512);
        b.body(2, b.print(b.use(1)), b.print(b.use(10)), b.print(b.at(4, b.number(0))),
            b.print(b.use(10)));
        CHECK.due("PLACES 0, 3 and 9", b.x.ofProcedure(1, 4), 1 + 8 + 512);
        CHECK.due("how many", b.x.many(6), 3);
    }

    private static void namesAre0To15() {
        CHECK.says("NAMES are 0 to 15");
        StaticLink x = new StaticLink();
        CHECK.due("procedure(0, 0)", x.procedure(0, 0), 1);
        CHECK.due("procedure(0, 15)", x.procedure(0, 15), 2);
        CHECK.due("parameter(1, 0, 0)", x.parameter(1, 0, 0), 0);
        CHECK.due("parameter(1, 15, 0)", x.parameter(1, 15, 0), 1);
        CHECK.due("variable(2, 0, 0, 0)", x.variable(2, 0, 0, 0), 0);
        CHECK.due("variable(2, 15, 0, 0)", x.variable(2, 15, 0, 0), 1);
        CHECK.due("ofName(0, 0, 4)", x.ofName(0, 0, 4), 1);
        CHECK.due("ofName(0, 15, 4)", x.ofName(0, 15, 4), 2);
        CHECK.due("hiddenBy(0, 0)", x.hiddenBy(0, 0), 0);
        CHECK.due("hiddenBy(0, 15)", x.hiddenBy(0, 15), 0);
        int[] named = {1, 8, 10, 11};
        for (int kind : named) {
            int none = kind == 8 ? -1 : 0;
            CHECK.due("node(" + kind + ", 0)", x.node(kind, 0, none, 0), x.many(1) - 1);
            CHECK.due("node(" + kind + ", 15)", x.node(kind, 15, none, 0), x.many(1) - 1);
            CHECK.argument("node(" + kind + ", 16)", () -> x.node(kind, 16, none, 0));
            CHECK.argument("node(" + kind + ", -1)", () -> x.node(kind, -1, none, 0));
        }
        int[] wrong = {-1, 16, MOST, LEAST};
        for (int name : wrong) {
            CHECK.argument("procedure(0, " + name + ")", () -> x.procedure(0, name));
            CHECK.argument("parameter(1, " + name + ", 0)", () -> x.parameter(1, name, 0));
            CHECK.argument("variable(0, " + name + ", 0, 0)", () -> x.variable(0, name, 0, 0));
            CHECK.argument("ofName(0, " + name + ", 0)", () -> x.ofName(0, name, 0));
            CHECK.argument("hiddenBy(0, " + name + ")", () -> x.hiddenBy(0, name));
        }
    }

    private static void atMostTenProcedures() {
        CHECK.says("PROCEDURES: at most 10, numbered from 0: 0 is MAIN, and always there");
        StaticLink x = new StaticLink();
        CHECK.due("MAIN is there", x.many(0), 1);
        CHECK.due("ofProcedure(0, 0)", x.ofProcedure(0, 0), -1);
        for (int k = 1; k <= 9; k++) {
            CHECK.due("procedure", x.procedure(0, k), k);
            CHECK.due("many(0)", x.many(0), k + 1);
        }
        CHECK.state("an eleventh, in MAIN", () -> x.procedure(0, 10));
        CHECK.state("an eleventh, in the last one", () -> x.procedure(9, 0));
        CHECK.due("many(0)", x.many(0), 10);
        CHECK.due("the last one", x.ofProcedure(9, 1), 9);
    }

    private static void parentsHaveSmallerNumbers() {
        CHECK.says("each other one is declared in its PARENT (that has a smaller number)");
        StaticLink x = new StaticLink();
        for (int k = 1; k <= 9; k++) {
            int own = k;
            CHECK.bounds("procedure(" + k + ", 0), its own number", () -> x.procedure(own, 0));
            CHECK.due("procedure", x.procedure(k - 1, 0), k);
            CHECK.due("its PARENT", x.ofProcedure(k, 0), k - 1);
        }
    }

    private static void insideWhateverThatIsInside() {
        CHECK.says("It is INSIDE its PARENT, and whatever that is INSIDE");
        Build b = new Build();
        b.x.procedure(0, 0);
        b.x.procedure(1, 1);
        b.x.procedure(2, 2);
        b.x.procedure(0, 3);
        b.x.variable(1, 4, 0, 0);
        b.x.body(3, b.print(b.use(4)));
        CHECK.due("a NODE IN one INSIDE one INSIDE it", b.x.hiddenBy(0, 4), 0);
        CHECK.due("likewise, unbound for MAIN", b.x.hiddenBy(2, 4), 1);
        b.x.body(4, b.print(b.use(4)));
        CHECK.due("what is beside is not INSIDE", b.x.hiddenBy(1, 4), 0);
        CHECK.due("INSIDE MAIN", b.x.hiddenBy(0, 4), 1);
        CHECK.due("not INSIDE the one beside it", b.x.hiddenBy(2, 4), 1);
    }

    private static void atMostFourParameters() {
        CHECK.says("PARAMETERS (at most 4; MAIN has none)");
        StaticLink x = new StaticLink();
        x.procedure(0, 0);
        CHECK.due("none at first", x.ofProcedure(1, 2), 0);
        for (int k = 0; k < 4; k++) {
            CHECK.due("parameter", x.parameter(1, 1 + k, k), k);
            CHECK.due("how many", x.ofProcedure(1, 2), k + 1);
        }
        CHECK.state("a fifth", () -> x.parameter(1, 9, 0));
        CHECK.state("MAIN has none", () -> x.parameter(0, 9, 0));
        CHECK.due("how many", x.ofProcedure(1, 2), 4);
        CHECK.due("of MAIN", x.ofProcedure(0, 2), 0);
        CHECK.says("Throws IllegalStateException if it is MAIN, or has 4, or declares that NAME "
            + "already, or has a VARIABLE");
        for (int kind = 0; kind <= 3; kind++) {
            StaticLink y = new StaticLink();
            y.procedure(0, 0);
            y.procedure(1, 1);
            CHECK.due("a PROCEDURE in it does not matter", y.parameter(1, 2, 0), 0);
            CHECK.state("a NAME that it has", () -> y.parameter(1, 1, 0));
            y.variable(0, 3, 0, 0);
            CHECK.due("a VARIABLE of its PARENT neither", y.parameter(1, 3, 0), 1);
            y.variable(1, 4, kind, kind & 1);
            CHECK.state("a VARIABLE of KIND " + kind, () -> y.parameter(1, 5, 0));
            CHECK.due("how many", y.ofProcedure(1, 2), 2);
        }
    }

    private static void atMostSixVariables() {
        CHECK.says("VARIABLES (at most 6)");
        StaticLink x = new StaticLink();
        x.procedure(0, 15);
        x.parameter(1, 14, 0);
        for (int p = 0; p <= 1; p++) {
            int owner = p;
            // CONSTANTS are VARIABLES, too.
            int[] kinds = {3, 0, 1, 2, 3, 0};
            for (int k = 0; k < 6; k++) {
                CHECK.due("how many", x.ofProcedure(p, 3), k);
                x.variable(p, k, kinds[k], kinds[k] == 1 ? 1 : 0);
            }
            CHECK.due("how many", x.ofProcedure(p, 3), 6);
            for (int kind = 0; kind <= 3; kind++) {
                int one = kind;
                CHECK.state("a seventh, of kind " + kind,
                    () -> x.variable(owner, 9, one, one == 1 ? 1 : 0));
            }
            CHECK.due("how many", x.ofProcedure(p, 3), 6);
        }
    }

    private static void declareOne(StaticLink x, int which, int name) {
        switch (which) {
            case 0: x.procedure(1, name); break;
            case 1: x.parameter(1, name, 0); break;
            case 2: x.variable(1, name, 0, 0); break;
            default: x.variable(1, name, 3, 5); break;
        }
    }

    private static void noNameTwice() {
        CHECK.says("In a PROCEDURE no NAME is declared twice");
        for (int first = 0; first <= 3; first++) {
            for (int second = 0; second <= 3; second++) {
                StaticLink x = new StaticLink();
                x.procedure(0, 3);
                int one = first;
                int other = second;
                declareOne(x, one, 7);
                CHECK.state(one + ", then " + other, () -> declareOne(x, other, 7));
                x.procedure(0, 7);
                CHECK.due("elsewhere it may be", x.variable(2, 7, 0, 0), 0);
                CHECK.due("what it is there, still", x.ofName(1, 7, 3),
                    new int[] {10, 0, 6, 9}[one]);
            }
        }
        StaticLink y = new StaticLink();
        y.procedure(0, 3);
        CHECK.due("its own NAME it may declare: that is its PARENT's", y.procedure(1, 3), 2);
    }

    private static void modesAndKinds() {
        CHECK.says("PARAMETERS are of a MODE: 0 .. 5; VARIABLES are of a KIND: 0 .. 3");
        for (int mode = 0; mode <= 5; mode++) {
            StaticLink x = new StaticLink();
            x.procedure(0, 0);
            CHECK.due("parameter of MODE " + mode, x.parameter(1, 1, mode), 0);
            CHECK.due("what it is", x.ofName(1, 1, 3), mode);
        }
        StaticLink y = new StaticLink();
        y.procedure(0, 0);
        int[] wrong = {-1, 6, MOST, LEAST};
        for (int mode : wrong) {
            CHECK.argument("MODE " + mode, () -> y.parameter(1, 1, mode));
        }
        for (int kind = 0; kind <= 3; kind++) {
            CHECK.due("variable of KIND " + kind, y.variable(0, 1 + kind, kind, kind & 1),
                kind == 3 ? -1 : kind);
            CHECK.due("what it is", y.ofName(0, 1 + kind, 3), 6 + kind);
        }
        int[] wrongKinds = {-1, 4, MOST, LEAST, -6, -7, MOST - 5, MOST - 6};
        for (int kind : wrongKinds) {
            CHECK.argument("KIND " + kind, () -> y.variable(0, 9, kind, 0));
            CHECK.argument("KIND " + kind + ", size 1", () -> y.variable(0, 9, kind, 1));
        }
    }

    private static void sizesOfArrays() {
        CHECK.says("1 ARRAY of 1 to 8 numbers");
        for (int size = 1; size <= 8; size++) {
            Build b = new Build();
            b.x.variable(0, 0, 1, size);
            CHECK.due("its size", b.x.ofName(0, 0, 4), size);
            b.body(0, b.store(0, b.number(size - 1), b.number(5)),
                b.give(b.at(0, b.number(size - 1))));
            CHECK.due("the last place", b.x.run(), 0);
            CHECK.due("what is there", b.x.ofRun(9), 5);
            b.body(0, b.give(b.at(0, b.number(size))));
            CHECK.due("a place behind it", b.x.run(), 2);
        }
        int[] wrong = {0, 9, -1, MOST, LEAST};
        for (int size : wrong) {
            CHECK.argument("size " + size, () -> new StaticLink().variable(0, 0, 1, size));
        }
    }

    private static void atFirst() {
        CHECK.says("0 NUMBER (0 at first), 1 ARRAY of 1 to 8 numbers (0 at first), "
            + "2 PROC (EMPTY at first)");
        Build b = new Build();
        b.x.variable(0, 0, 0, 0);
        b.x.procedure(0, 1);
        b.x.variable(1, 2, 0, 0);
        b.x.variable(1, 3, 1, 8);
        b.x.variable(1, 4, 2, 0);
        b.x.variable(1, 7, 1, 8);
        b.x.procedure(0, 5);
        b.body(2, b.give(b.number(9)));
        int all = b.use(2);
        for (int k = 0; k < 8; k++) {
            all = b.add(all, b.add(b.at(3, b.number(k)), b.at(7, b.number(k))));
        }
        // A second FRAME may be laid where the first one left its numbers; and so may a second run.
        b.body(1, b.print(all), b.set(2, b.number(6)), b.store(3, b.number(0), b.number(7)),
            b.store(3, b.number(7), b.number(8)), b.store(7, b.number(3), b.number(9)),
            b.when(b.use(0), b.perform(b.call(4)), b.keep(4, b.taken(5))));
        b.body(0, b.perform(b.call(1)), b.set(0, b.number(1)), b.perform(b.call(1)));
        CHECK.due("the second FRAME has an EMPTY PROC, too", b.x.run(), 3);
        CHECK.due("all are 0 in both", b.printed(), "0 0");
        CHECK.due("and in a second run", b.x.run(), 3);
        CHECK.due("all are 0", b.printed(), "0 0");
    }

    private static void places() {
        CHECK.says("the PARAMETERS, and the VARIABLES that are no CONSTANTS, of a PROCEDURE have "
            + "the PLACES 0, 1, ... as they were declared");
        StaticLink x = new StaticLink();
        x.procedure(0, 0);
        for (int k = 0; k < 4; k++) {
            CHECK.due("PARAMETER", x.parameter(1, 15 - k, 3 - k), k);
        }
        for (int k = 0; k < 6; k++) {
            CHECK.due("VARIABLE", x.variable(1, 5 - k, k % 3, k % 3 == 1 ? 8 : 0), 4 + k);
        }
        for (int k = 0; k < 10; k++) {
            CHECK.due("ofName, the PLACE", x.ofName(1, k < 4 ? 15 - k : 9 - k, 2), k);
        }
        x.procedure(0, 1);
        CHECK.due("a CONSTANT has none", x.variable(2, 0, 3, 5), -1);
        CHECK.due("the first behind it", x.variable(2, 1, 0, 0), 0);
        CHECK.due("one more CONSTANT", x.variable(2, 2, 3, 5), -1);
        CHECK.due("the second one", x.variable(2, 3, 2, 0), 1);
        CHECK.due("MAIN starts with 0, too", x.variable(0, 3, 1, 1), 0);
    }

    private static void whatANameIs() {
        CHECK.says("What a NAME is in a PROCEDURE: what that declares with it; otherwise what it "
            + "is in its PARENT; unbound, if nobody declares it");
        StaticLink x = new StaticLink();
        x.procedure(0, 1);
        x.procedure(1, 1);
        x.procedure(2, 1);
        for (int p = 0; p <= 3; p++) {
            CHECK.due("unbound", x.ofName(p, 5, 3), -1);
        }
        x.variable(2, 5, 0, 0);
        CHECK.due("what one INSIDE declares is nothing here", x.ofName(1, 5, 0), -1);
        CHECK.due("its own", x.ofName(2, 5, 0), 2);
        CHECK.due("its PARENT's", x.ofName(3, 5, 0), 2);
        x.variable(0, 5, 3, 7);
        CHECK.due("over two PARENTS", x.ofName(1, 5, 0), 0);
        CHECK.due("the nearest one", x.ofName(3, 5, 0), 2);
        x.variable(3, 5, 2, 0);
        CHECK.due("its own ahead of all", x.ofName(3, 5, 3), 8);
        CHECK.due("a NAME that each one declares anew", x.ofName(1, 1, 4), 2);
        CHECK.due("that of its PARENT", x.ofName(3, 1, 4), 3);
    }

    private static void hops() {
        CHECK.says("HOPS: how many times one goes from PROCEDURE to PARENT for that");
        StaticLink x = new StaticLink();
        x.variable(0, 15, 0, 0);
        for (int k = 1; k <= 9; k++) {
            x.procedure(k - 1, k);
        }
        for (int p = 0; p <= 9; p++) {
            CHECK.due("HOPS to MAIN's", x.ofName(p, 15, 1), p);
            CHECK.due("HOPS of the NAME of itself", p == 0 ? 1 : x.ofName(p, p, 1), 1);
        }
    }

    private static void newObject() {
        CHECK.says("Creates a program of MAIN, without a BODY");
        StaticLink x = new StaticLink();
        CHECK.due("PROCEDURES", x.many(0), 1);
        CHECK.due("NODES", x.many(1), 0);
        CHECK.due("NODES IN none", x.many(2), 0);
        CHECK.due("its BODY", x.ofProcedure(0, 6), -1);
        CHECK.due("FAULTS: it is without a BODY", x.many(3), 1);
        CHECK.due("the FAULT", x.fault(0, 0), 10);
        CHECK.due("PASSES: 7 at first", x.many(7), 7);
        CHECK.due("MOST: 1000 at first", x.many(8), 1000);
        CHECK.due("DEEP: 20 at first", x.many(9), 20);
        CHECK.state("run()", () -> x.run());
        for (int name = 0; name <= 15; name++) {
            for (int what = 0; what <= 4; what++) {
                CHECK.due("ofName(0, " + name + ", " + what + ")", x.ofName(0, name, what), -1);
            }
        }
    }

    private static void returnsOfDeclarations() {
        CHECK.says("Returns its PLACE; NONE, if it is a CONSTANT");
        StaticLink x = new StaticLink();
        CHECK.due("a CONSTANT of -99", x.variable(0, 0, 3, -99), -1);
        CHECK.due("a CONSTANT of 99", x.variable(0, 1, 3, 99), -1);
        CHECK.due("a CONSTANT of 0", x.variable(0, 2, 3, 0), -1);
        CHECK.due("its value", x.ofName(0, 0, 4), -99);
        CHECK.due("its value", x.ofName(0, 1, 4), 99);
        CHECK.due("a NUMBER", x.variable(0, 3, 0, 0), 0);
        CHECK.says("the size of an ARRAY, the value of a CONSTANT, otherwise 0");
        int[][] wrong = {{3, 100}, {3, -100}, {3, MOST}, {3, LEAST}, {0, 1}, {0, -1}, {2, 1},
            {2, -1}, {0, 8}, {2, 99}, {1, 0}, {1, 9}};
        for (int[] w : wrong) {
            CHECK.argument("KIND " + w[0] + ", size " + w[1], () -> x.variable(0, 9, w[0], w[1]));
        }
        CHECK.due("a PROC of 0", x.variable(0, 4, 2, 0), 1);
    }

    private static void name(StaticLink x, int name, int... want) {
        for (int what = 0; what <= 4; what++) {
            CHECK.due("ofName(2, " + name + ", " + what + ")", x.ofName(2, name, what),
                want[what]);
        }
    }

    private static void ofName() {
        CHECK.says("2 its PLACE (NONE for a PROCEDURE, and a CONSTANT), .. 4 the size of an ARRAY "
            + "VARIABLE, the value of a CONSTANT, the number of a PROCEDURE, otherwise 0; all "
            + "NONE, if it is unbound");
        StaticLink x = new StaticLink();
        x.procedure(0, 0);
        x.procedure(1, 1);
        for (int mode = 0; mode <= 3; mode++) {
            x.parameter(1, 2 + mode, mode);
        }
        x.parameter(2, 6, 4);
        x.parameter(2, 7, 5);
        x.variable(2, 8, 0, 0);
        x.variable(2, 9, 1, 8);
        x.variable(2, 10, 2, 0);
        x.variable(2, 11, 3, -99);
        x.variable(0, 12, 3, 0);
        for (int mode = 0; mode <= 3; mode++) {
            name(x, 2 + mode, 1, 1, mode, mode, 0);
        }
        name(x, 6, 2, 0, 0, 4, 0);
        name(x, 7, 2, 0, 1, 5, 0);
        name(x, 8, 2, 0, 2, 6, 0);
        name(x, 9, 2, 0, 3, 7, 8);
        name(x, 10, 2, 0, 4, 8, 0);
        name(x, 11, 2, 0, -1, 9, -99);
        name(x, 12, 0, 2, -1, 9, 0);
        name(x, 0, 0, 2, -1, 10, 1);
        name(x, 1, 1, 1, -1, 10, 2);
        name(x, 13, -1, -1, -1, -1, -1);
    }

    private static void of(StaticLink x, int p, int... want) {
        for (int what = 0; what <= 7; what++) {
            CHECK.due("ofProcedure(" + p + ", " + what + ")", x.ofProcedure(p, what), want[what]);
        }
    }

    private static void ofProcedure() {
        CHECK.says("0 its PARENT (NONE), 1 its NAME (NONE for MAIN), 2 how many PARAMETERS, 3 how "
            + "many VARIABLES, 4 the set of PLACES that ESCAPE, 5 1 if it is HANDED ON, otherwise "
            + "0, 6 its BODY (NONE), 7 how long its CODE is (0 with FAULTS)");
        Build b = new Build();
        of(b.x, 0, -1, -1, 0, 0, 0, 0, -1, 0);
        b.x.procedure(0, 0);
        b.x.parameter(1, 1, 0);
        b.x.variable(1, 2, 3, 4);
        b.x.variable(1, 3, 2, 0);
        of(b.x, 1, 0, 0, 1, 2, 0, 0, -1, 0);
        b.x.body(0, b.print(b.number(0)));
        of(b.x, 0, -1, -1, 0, 0, 0, 0, 1, 0);
        b.x.procedure(1, 15);
        b.x.body(1, b.keep(3, b.taken(15)));
        b.x.body(2, b.set(1, b.number(0)));
        of(b.x, 0, -1, -1, 0, 0, 0, 0, 1, 4);
        of(b.x, 1, 0, 0, 1, 2, 1, 0, 3, 4);
        of(b.x, 2, 1, 15, 0, 0, 0, 1, 5, 4);
        b.x.procedure(0, 9);
        of(b.x, 2, 1, 15, 0, 0, 0, 1, 5, 0);
        of(b.x, 3, 0, 9, 0, 0, 0, 0, -1, 0);
    }
}
