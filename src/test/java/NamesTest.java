/** Promises 2 to 6: procedure, parameter, variable, ofName, ofProcedure. */
public final class NamesTest {
    private static final Check CHECK = new Check("NamesTest");
    private static final int MOST = Integer.MAX_VALUE;
    private static final int LEAST = Integer.MIN_VALUE;

    public static void main(String[] args) {
        procedures();
        parameters();
        variables();
        names();
        ofProcedures();
        CHECK.end();
    }

    private static void procedures() {
        StaticLink x = new StaticLink();
        for (int k = 1; k <= 9; k++) {
            CHECK.due("procedure", x.procedure(k - 1, k == 1 ? 15 : 0), k);
        }
        CHECK.state("procedure, an eleventh", () -> x.procedure(0, 1));
        CHECK.bounds("procedure, none such, ahead of all", () -> x.procedure(10, 16));
        CHECK.bounds("procedure(-1, 0)", () -> x.procedure(-1, 0));
        CHECK.bounds("procedure(MOST, 0)", () -> x.procedure(MOST, 0));
        CHECK.argument("procedure(0, 16), ahead of ten", () -> x.procedure(0, 16));
        CHECK.argument("procedure(0, -1)", () -> x.procedure(0, -1));
        CHECK.due("many(0)", x.many(0), 10);

        StaticLink y = new StaticLink();
        y.variable(0, 4, 3, 1);
        CHECK.state("procedure, a NAME that is declared", () -> y.procedure(0, 4));
        y.procedure(0, 5);
        CHECK.state("procedure, a NAME of a procedure", () -> y.procedure(0, 5));
        CHECK.due("procedure, a NAME that its PARENT has elsewhere", y.procedure(1, 5), 2);
        CHECK.due("many(0) behind refused ones", y.many(0), 3);
    }

    private static void parameters() {
        StaticLink x = new StaticLink();
        x.procedure(0, 0);
        for (int k = 0; k < 4; k++) {
            CHECK.due("parameter", x.parameter(1, k, 5 - k), k);
        }
        CHECK.state("parameter, a fifth", () -> x.parameter(1, 9, 0));
        CHECK.state("parameter of MAIN", () -> x.parameter(0, 9, 0));
        CHECK.argument("parameter of MAIN, mode 6", () -> x.parameter(0, 9, 6));
        CHECK.argument("parameter, mode -1", () -> x.parameter(1, 9, -1));
        CHECK.argument("parameter, name 16", () -> x.parameter(1, 16, 0));
        CHECK.argument("parameter, name -1", () -> x.parameter(1, -1, 0));
        CHECK.bounds("parameter, none such", () -> x.parameter(2, 16, 6));
        CHECK.bounds("parameter of -1", () -> x.parameter(-1, 0, 0));
        x.procedure(0, 1);
        x.parameter(2, 3, 0);
        CHECK.state("parameter, the same NAME", () -> x.parameter(2, 3, 1));
        x.procedure(2, 4);
        CHECK.state("parameter, a NAME of a PROCEDURE in it", () -> x.parameter(2, 4, 1));
        x.variable(2, 5, 3, 0);
        CHECK.state("parameter behind a CONSTANT", () -> x.parameter(2, 6, 0));
        CHECK.due("how many", x.ofProcedure(2, 2), 1);
    }

    private static void variables() {
        StaticLink x = new StaticLink();
        CHECK.due("variable, NUMBER", x.variable(0, 0, 0, 0), 0);
        CHECK.due("variable, CONSTANT", x.variable(0, 1, 3, -99), -1);
        CHECK.due("variable, ARRAY", x.variable(0, 2, 1, 8), 1);
        CHECK.due("variable, PROC", x.variable(0, 3, 2, 0), 2);
        CHECK.due("variable, CONSTANT", x.variable(0, 4, 3, 99), -1);
        CHECK.state("variable, the same NAME", () -> x.variable(0, 1, 0, 0));
        CHECK.due("variable, ARRAY of 1", x.variable(0, 15, 1, 1), 3);
        CHECK.state("variable, a seventh", () -> x.variable(0, 6, 0, 0));
        CHECK.bounds("variable, none such", () -> x.variable(1, 16, 4, 9));
        CHECK.bounds("variable of LEAST", () -> x.variable(LEAST, 0, 0, 0));
        CHECK.due("how many", x.ofProcedure(0, 3), 6);

        StaticLink y = new StaticLink();
        int[][] wrong = {{16, 0, 0}, {-1, 0, 0}, {0, 4, 0}, {0, -1, 0}, {0, 0, 1}, {0, 0, -1},
            {0, 1, 0}, {0, 1, 9}, {0, 2, 1}, {0, 3, 100}, {0, 3, -100}, {0, MOST, 0},
            {0, LEAST, 0}, {0, MOST - 2, 0}, {0, 1, LEAST}};
        for (int[] w : wrong) {
            CHECK.argument("variable of " + w[0] + " " + w[1] + " " + w[2],
                () -> y.variable(0, w[0], w[1], w[2]));
        }
        y.procedure(0, 7);
        CHECK.state("variable, a NAME of a PROCEDURE", () -> y.variable(0, 7, 0, 0));
        y.parameter(1, 1, 2);
        CHECK.due("variable behind a PARAMETER", y.variable(1, 2, 0, 0), 1);
    }

    private static void name(StaticLink x, int p, int name, int... want) {
        for (int what = 0; what <= 4; what++) {
            CHECK.due("ofName(" + p + ", " + name + ", " + what + ")", x.ofName(p, name, what),
                want[what]);
        }
    }

    private static void names() {
        StaticLink x = new StaticLink();
        x.variable(0, 0, 0, 0);
        x.variable(0, 1, 3, -7);
        x.variable(0, 2, 1, 5);
        x.procedure(0, 3);
        for (int mode = 0; mode <= 3; mode++) {
            x.parameter(1, 8 + mode, mode);
        }
        x.variable(1, 0, 2, 0);
        x.procedure(1, 4);
        x.parameter(2, 2, 5);
        x.parameter(2, 1, 4);
        name(x, 0, 0, 0, 0, 0, 6, 0);
        name(x, 0, 1, 0, 0, -1, 9, -7);
        name(x, 0, 2, 0, 0, 1, 7, 5);
        name(x, 0, 3, 0, 0, -1, 10, 1);
        name(x, 0, 4, -1, -1, -1, -1, -1);
        name(x, 1, 3, 0, 1, -1, 10, 1);
        name(x, 1, 0, 1, 0, 4, 8, 0);
        name(x, 1, 4, 1, 0, -1, 10, 2);
        for (int mode = 0; mode <= 3; mode++) {
            name(x, 1, 8 + mode, 1, 0, mode, mode, 0);
            name(x, 2, 8 + mode, 1, 1, mode, mode, 0);
        }
        name(x, 2, 0, 1, 1, 4, 8, 0);
        name(x, 2, 1, 2, 0, 1, 4, 0);
        name(x, 2, 2, 2, 0, 0, 5, 0);
        name(x, 2, 3, 0, 2, -1, 10, 1);
        name(x, 2, 15, -1, -1, -1, -1, -1);
        CHECK.bounds("ofName of none such", () -> x.ofName(3, 16, 5));
        CHECK.bounds("ofName of -1", () -> x.ofName(-1, 0, 0));
        CHECK.argument("ofName, name 16", () -> x.ofName(0, 16, 0));
        CHECK.argument("ofName, name -1", () -> x.ofName(0, -1, 0));
        CHECK.argument("ofName, what 5", () -> x.ofName(0, 5, 5));
        CHECK.argument("ofName, what -1", () -> x.ofName(0, 0, -1));
    }

    private static void ofProcedures() {
        Build b = new Build();
        StaticLink x = b.x;
        x.variable(0, 0, 3, 1);
        x.variable(0, 1, 0, 0);
        x.variable(0, 2, 1, 3);
        x.procedure(0, 5);
        x.parameter(1, 6, 0);
        x.variable(1, 7, 0, 0);
        x.procedure(1, 8);
        int inner = b.print(b.add(b.use(1), b.use(7)));
        x.body(2, inner);
        CHECK.due("HANDED ON, before", x.ofProcedure(2, 5), 0);
        CHECK.due("ESCAPES, before", x.ofProcedure(1, 4), 0);
        int taking = b.perform(b.call(9, b.taken(8)));
        x.body(1, taking);
        CHECK.due("HANDED ON, by a CALL of what is unbound", x.ofProcedure(2, 5), 1);
        CHECK.due("ESCAPES, its place 1", x.ofProcedure(1, 4), 2);
        CHECK.due("ESCAPES, MAIN's place 0", x.ofProcedure(0, 4), 1);
        int[] want = {0, 5, 1, 1, 2, 0, taking, 0};
        for (int what = 0; what <= 7; what++) {
            CHECK.due("ofProcedure(1, " + what + ")", x.ofProcedure(1, what), want[what]);
        }
        CHECK.due("VARIABLES of MAIN", x.ofProcedure(0, 3), 3);
        CHECK.bounds("ofProcedure of none such", () -> x.ofProcedure(3, 8));
        CHECK.bounds("ofProcedure of -1", () -> x.ofProcedure(-1, 0));
        CHECK.argument("ofProcedure, what 8", () -> x.ofProcedure(0, 8));
        CHECK.argument("ofProcedure, what -1", () -> x.ofProcedure(0, -1));
        onlyThoseInsideHandOn();
    }

    // What is HANDED ON has to be INSIDE the one whose PLACE it is.
    private static void onlyThoseInsideHandOn() {
        Build b = new Build();
        StaticLink x = b.x;
        x.variable(0, 0, 2, 0);
        x.procedure(0, 1);
        x.variable(1, 2, 0, 0);
        x.procedure(1, 3);
        x.variable(2, 5, 0, 0);
        x.procedure(2, 4);
        x.body(3, b.set(2, b.use(5)));
        x.body(2, b.perform(b.call(4)));
        x.body(1, b.keep(0, b.taken(3)));
        x.body(0, b.keep(0, b.taken(1)));
        CHECK.due("one around it is HANDED ON", x.ofProcedure(1, 4), 1);
        CHECK.due("one around both is HANDED ON", x.ofProcedure(2, 4), 0);
        CHECK.due("MAIN's PROC, of a HANDED ON", x.ofProcedure(0, 4), 1);
        CHECK.due("many(6)", x.many(6), 2);
    }
}
