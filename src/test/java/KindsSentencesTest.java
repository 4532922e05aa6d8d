/**
 * The sentences of section 2 that say what a NODE of a kind is: each one stands ahead of its
 * checks, that run such NODES, and look at the FAULT of what it must not be.
 */
public final class KindsSentencesTest {
    private static final Check CHECK = new Check("KindsSentencesTest");

    public static void main(String[] args) {
        expressionsGiveANumber();
        number();
        use();
        at();
        twoExpressions();
        callOfAProcedure();
        callOfAProc();
        arguments();
        taken();
        arrayName();
        seq();
        set();
        store();
        ifElse();
        loop();
        leave();
        give();
        print();
        perform();
        keep();
        CHECK.end();
    }

    private static void run(String what, String printed, Build b, int... statements) {
        b.body(0, statements);
        CHECK.run(b, what, 0, printed);
    }

    /** The FAULT of the STATEMENT, or of the NODE in it. */
    private static void fault(String what, int which, int n, Build b, int statement) {
        b.x.body(0, statement);
        CHECK.due(what, b.faults(), which == 0 ? "" : which + " 0 " + n);
    }

    private static void expressionsGiveANumber() {
        CHECK.says("EXPRESSIONS give a number");
        Build b = new Build();
        b.x.variable(0, 0, 0, 0);
        b.x.variable(0, 1, 1, 2);
        b.x.procedure(0, 2);
        b.x.body(1, b.give(b.number(8)));
        run("the kinds 0 to 8", "5 0 0 7 3 10 2 0 8", b, b.print(b.number(5)), b.print(b.use(0)),
            b.print(b.at(1, b.number(1))), b.print(b.add(b.number(5), b.number(2))),
            b.print(b.sub(b.number(5), b.number(2))), b.print(b.mul(b.number(5), b.number(2))),
            b.print(b.div(b.number(5), b.number(2))), b.print(b.less(b.number(5), b.number(2))),
            b.print(b.call(2)));
        int list = b.x.node(9, 0, b.number(1), -1);
        int[] others = {list, b.taken(2), b.array(1), b.leave(0)};
        for (int n : others) {
            CHECK.argument("PRINT of kind " + b.x.ofNode(n, 0), () -> b.x.node(19, 0, n, 0));
        }
    }

    private static void number() {
        CHECK.says("0 NUMBER a (-999 to 999)");
        int[] all = {-999, -1, 0, 1, 999};
        for (int v : all) {
            Build b = new Build();
            run("NUMBER " + v, v + "", b, b.print(b.number(v)));
        }
    }

    private static void use() {
        CHECK.says("1 USE of the NAME a: a NUMBER, a CONSTANT, or a VALUE, REF or BY NAME");
        Build b = new Build();
        b.x.variable(0, 0, 0, 0);
        b.x.variable(0, 1, 3, -99);
        b.x.procedure(0, 2);
        b.x.parameter(1, 3, 0);
        b.x.parameter(1, 4, 1);
        b.x.parameter(1, 5, 2);
        b.x.body(1, b.seq(b.print(b.use(3)), b.print(b.use(4)), b.print(b.use(5)),
            b.print(b.use(0)), b.print(b.use(1))));
        run("each of them", "7 6 15 6 -99", b, b.set(0, b.number(6)), b.perform(b.call(2,
            b.number(7), b.use(0), b.add(b.use(0), b.number(9)))));
        Build c = new Build();
        c.x.variable(0, 0, 1, 2);
        c.x.variable(0, 1, 2, 0);
        c.x.procedure(0, 2);
        c.x.body(1, c.print(c.number(0)));
        for (int name = 0; name <= 3; name++) {
            int n = c.use(name);
            fault("USE of another thing", name == 3 ? 1 : 2, n, c, c.print(n));
        }
    }

    /** MAIN has the arrays 0, of three, and 1, of one; PROCEDURE 1 a COPY and an ARRAY. */
    private static Build withArrays() {
        Build b = new Build();
        b.x.variable(0, 0, 1, 3);
        b.x.variable(0, 1, 1, 1);
        b.x.variable(0, 7, 0, 0);
        b.x.procedure(0, 2);
        b.x.parameter(1, 3, 3);
        b.x.parameter(1, 4, 4);
        b.x.body(1, b.print(b.number(0)));
        return b;
    }

    private static void at() {
        CHECK.says("2 AT: of the array with the NAME a the number at b, an EXPRESSION");
        Build b = withArrays();
        b.x.body(1, b.seq(b.print(b.at(3, b.number(2))), b.print(b.at(4, b.number(2))),
            b.print(b.at(0, b.sub(b.number(2), b.number(1))))));
        run("a VARIABLE, a COPY, an ARRAY", "9 0 9 9 8", b, b.store(0, b.number(1), b.number(8)),
            b.store(0, b.number(2), b.number(9)), b.print(b.at(0, b.number(2))),
            b.print(b.at(1, b.number(0))), b.perform(b.call(2, b.array(0), b.array(0))));
        int[] names = {7, 2, 15};
        for (int name : names) {
            int n = b.at(name, b.number(0));
            fault("AT of another thing", name == 15 ? 1 : 2, n, b, b.print(n));
        }
    }

    private static void twoExpressions() {
        CHECK.says("3 ADD, 4 SUB, 5 MUL, 6 DIV, 7 LESS (1 if b is less than c, otherwise 0): b and "
            + "c are EXPRESSIONS");
        int[][] rows = {{12, 5}, {5, 12}, {-12, 5}, {12, -5}, {7, 7}, {0, 3}};
        String[] due = {"17 7 60 2 0", "17 -7 60 0 1", "-7 -17 -60 -2 1", "7 17 -60 -2 0",
            "14 0 49 1 0", "3 -3 0 0 1"};
        for (int k = 0; k < rows.length; k++) {
            for (int passes = 0; passes <= 1; passes++) {
                Build b = new Build();
                b.x.passes(passes);
                int[] all = new int[5];
                for (int kind = 3; kind <= 7; kind++) {
                    all[kind - 3] = b.print(b.x.node(kind, 0, b.number(rows[k][0]),
                        b.number(rows[k][1])));
                }
                run(rows[k][0] + " and " + rows[k][1], due[k], b, all);
            }
        }
    }

    private static void callOfAProcedure() {
        CHECK.says("8 CALL of the NAME a: a PROCEDURE, or a PROC; b is an ARGUMENT, or NONE");
        Build b = new Build();
        b.x.variable(0, 9, 0, 0);
        b.x.procedure(0, 1);
        b.x.procedure(0, 2);
        for (int k = 0; k < 4; k++) {
            b.x.parameter(2, 3 + k, 0);
        }
        b.x.body(1, b.give(b.number(4)));
        b.x.body(2, b.give(b.sub(b.mul(b.use(3), b.use(4)), b.mul(b.use(5), b.use(6)))));
        run("without, and with four ARGUMENTS", "4 -14", b, b.print(b.call(1)),
            b.print(b.call(2, b.number(2), b.number(3), b.number(4), b.number(5))));
        int n = b.call(9);
        fault("CALL of a NUMBER", 2, n, b, b.print(n));
        int unbound = b.call(15);
        fault("CALL of what is unbound", 1, unbound, b, b.print(unbound));
    }

    private static void callOfAProc() {
        CHECK.says("8 CALL of the NAME a: a PROCEDURE, or a PROC; b is an ARGUMENT, or NONE");
        Build b = new Build();
        b.x.variable(0, 0, 2, 0);
        b.x.procedure(0, 1);
        b.x.parameter(1, 2, 0);
        b.x.procedure(0, 3);
        b.x.parameter(2, 4, 5);
        b.x.body(1, b.give(b.add(b.use(2), b.number(1))));
        b.x.body(2, b.give(b.call(4, b.call(4, b.number(5)))));
        run("a VARIABLE, and a PARAMETER", "10 7 7", b, b.keep(0, b.taken(1)),
            b.print(b.call(0, b.number(9))), b.print(b.call(3, b.taken(1))),
            b.print(b.call(3, b.taken(0))));
    }

    private static void arguments() {
        CHECK.says("9 ARGUMENT: b is an EXPRESSION, an ARRAY NAME or a TAKEN; c is the next "
            + "ARGUMENT, or NONE");
        Build b = new Build();
        b.x.variable(0, 0, 1, 2);
        b.x.procedure(0, 1);
        b.x.procedure(0, 2);
        b.x.parameter(2, 3, 0);
        b.x.parameter(2, 4, 4);
        b.x.parameter(2, 5, 5);
        b.x.body(1, b.give(b.number(6)));
        b.x.body(2, b.seq(b.print(b.use(3)), b.print(b.at(4, b.number(1))), b.print(b.call(5))));
        int last = b.x.node(9, 0, b.taken(1), -1);
        int middle = b.x.node(9, 0, b.array(0), last);
        int first = b.x.node(9, 0, b.number(8), middle);
        run("each of them, one behind the other", "8 7 6", b, b.store(0, b.number(1), b.number(7)),
            b.perform(b.x.node(8, 2, first, 0)));
        CHECK.due("its b", b.x.ofNode(middle, 2), middle - 1);
        CHECK.due("its c", b.x.ofNode(middle, 3), last);
        CHECK.due("no next one", b.x.ofNode(last, 3), -1);
        int statement = b.leave(0);
        int argument = b.x.node(9, 0, b.number(0), -1);
        CHECK.argument("b is a STATEMENT", () -> b.x.node(9, 0, statement, -1));
        CHECK.argument("b is an ARGUMENT", () -> b.x.node(9, 0, argument, -1));
        CHECK.argument("b is NONE", () -> b.x.node(9, 0, -1, argument));
    }

    private static void taken() {
        CHECK.says("10 TAKEN: the PROCEDURE, or the PROC, with the NAME a, as a value");
        Build b = new Build();
        b.x.variable(0, 0, 2, 0);
        b.x.variable(0, 1, 2, 0);
        b.x.variable(0, 9, 0, 0);
        b.x.procedure(0, 2);
        b.x.procedure(0, 3);
        b.x.body(1, b.print(b.number(1)));
        b.x.body(2, b.print(b.number(2)));
        run("as it was when it was TAKEN", "2 1", b, b.keep(0, b.taken(2)), b.keep(1, b.taken(0)),
            b.keep(0, b.taken(3)), b.perform(b.call(0)), b.perform(b.call(1)));
        int n = b.taken(9);
        fault("TAKEN of a NUMBER", 2, n, b, b.keep(0, n));
    }

    private static void arrayName() {
        CHECK.says("11 ARRAY NAME: the array with the NAME a");
        Build b = withArrays();
        b.x.procedure(1, 5);
        b.x.parameter(2, 6, 4);
        b.x.body(2, b.store(6, b.number(0), b.add(b.at(6, b.number(0)), b.number(1))));
        b.x.body(1, b.seq(b.perform(b.call(5, b.array(3))), b.perform(b.call(5, b.array(4))),
            b.perform(b.call(5, b.array(1))), b.print(b.at(3, b.number(0)))));
        run("a COPY, an ARRAY, a VARIABLE", "1 1 1", b,
            b.perform(b.call(2, b.array(0), b.array(0))), b.print(b.at(0, b.number(0))),
            b.print(b.at(1, b.number(0))));
        int n = b.array(7);
        fault("ARRAY NAME of a NUMBER", 2, n, b, b.perform(b.call(2, b.array(0), n)));
    }

    private static void seq() {
        CHECK.says("12 SEQ: b and c are STATEMENTS, b first");
        Build b = new Build();
        int c = b.print(b.number(2));
        int first = b.print(b.number(1));
        b.x.body(0, b.x.node(12, 0, first, c));
        CHECK.run(b, "b first, though its number is greater", 0, "1 2");
    }

    private static void set() {
        CHECK.says("13 SET the NAME a to b, an EXPRESSION: it is a NUMBER, a VALUE or a REF");
        Build b = new Build();
        b.x.variable(0, 0, 0, 0);
        b.x.variable(0, 8, 1, 1);
        b.x.procedure(0, 1);
        b.x.parameter(1, 2, 0);
        b.x.parameter(1, 3, 1);
        b.x.body(1, b.seq(b.set(2, b.number(5)), b.print(b.use(2)), b.set(3, b.number(6))));
        run("each of them", "4 5 6 5 6", b, b.set(0, b.number(4)), b.print(b.use(0)),
            b.perform(b.call(1, b.use(0), b.use(0))), b.print(b.use(0)),
            b.perform(b.call(1, b.use(0), b.at(8, b.number(0)))), b.print(b.at(8, b.number(0))));
        CHECK.says("(So it is 2 to SET an array, and 3 to SET a CONSTANT; a REF that is handed a "
            + "CONSTANT is 5, told of the CALL.)");
        b.x.variable(0, 9, 3, 1);
        int array = b.set(8, b.number(0));
        fault("SET an array", 2, array, b, array);
        int constant = b.set(9, b.number(0));
        fault("SET a CONSTANT", 3, constant, b, constant);
        int call = b.call(1, b.number(0), b.use(9));
        fault("a REF that is handed a CONSTANT", 5, call, b, b.print(call));
    }

    private static void store() {
        CHECK.says("14 STORE: the array with the NAME a gets, at b, the number c, both "
            + "EXPRESSIONS");
        Build b = withArrays();
        b.x.body(1, b.seq(b.store(3, b.number(0), b.number(5)), b.print(b.at(3, b.number(0))),
            b.print(b.at(0, b.number(0))), b.store(4, b.number(0), b.number(6))));
        run("a VARIABLE, a COPY, an ARRAY", "5 4 6 0 9", b,
            b.store(0, b.sub(b.number(1), b.number(1)), b.mul(b.number(2), b.number(2))),
            b.perform(b.call(2, b.array(0), b.array(0))), b.print(b.at(0, b.number(0))),
            b.print(b.at(0, b.number(1))), b.store(0, b.number(2), b.number(9)),
            b.print(b.at(0, b.number(2))));
        int n = b.store(7, b.number(0), b.number(0));
        fault("STORE in a NUMBER", 2, n, b, n);
    }

    private static void ifElse() {
        CHECK.says("15 IF b is not 0, c; otherwise a: b is an EXPRESSION, c a STATEMENT, a a "
            + "STATEMENT or NONE");
        int[] all = {0, 1, -1, 999};
        for (int v : all) {
            Build b = new Build();
            run("IF " + v, v == 0 ? "2" : "1", b,
                b.when(b.number(v), b.print(b.number(1)), b.print(b.number(2))));
            run("IF " + v + ", without a", v == 0 ? "" : "1", b,
                b.when(b.number(v), b.print(b.number(1)), -1));
        }
    }

    private static void loop() {
        CHECK.says("16 LOOP with the LABEL a (0 to 9): as long as b, an EXPRESSION, is not 0, c, a "
            + "STATEMENT");
        for (int label = 0; label <= 9; label++) {
            Build b = new Build();
            b.x.variable(0, 0, 0, 0);
            run("LABEL " + label, "-2 -1 0", b, b.set(0, b.number(-2)), b.loop(label, b.use(0),
                b.seq(b.print(b.use(0)), b.count(0))), b.print(b.use(0)));
        }
    }

    private static void leave() {
        CHECK.says("17 BREAK with the LABEL a");
        for (int label = 0; label <= 9; label++) {
            Build b = new Build();
            run("LABEL " + label, "1 2", b, b.loop(label, b.number(1), b.seq(b.print(b.number(1)),
                b.leave(label), b.print(b.number(9)))), b.print(b.number(2)));
        }
    }

    private static void give() {
        CHECK.says("18 RETURN b, an EXPRESSION");
        Build b = new Build();
        b.x.procedure(0, 0);
        b.x.body(1, b.seq(b.give(b.add(b.number(3), b.number(4))), b.print(b.number(9))));
        run("nothing behind it is done", "7", b, b.print(b.call(0)), b.give(b.number(2)),
            b.print(b.number(8)));
        CHECK.due("MAIN gave", b.x.ofRun(9), 2);
    }

    private static void print() {
        CHECK.says("19 PRINT b, an EXPRESSION");
        Build b = new Build();
        int n = b.print(b.sub(b.number(3), b.number(10)));
        run("PRINT", "-7", b, n);
        CHECK.due("the PRINT", b.x.printed(0, 2), n);
    }

    private static void perform() {
        CHECK.says("20 DO b, a CALL");
        Build b = new Build();
        b.x.procedure(0, 0);
        b.x.body(1, b.seq(b.print(b.number(5)), b.give(b.number(6))));
        run("what it gives is dropped", "5 5", b, b.perform(b.call(0)), b.perform(b.call(0)));
        CHECK.due("MAIN gave", b.x.ofRun(9), 0);
        int n = b.number(1);
        CHECK.argument("DO of a NUMBER", () -> b.x.node(20, 0, n, 0));
    }

    private static void keep() {
        CHECK.says("21 KEEP: the PROC VARIABLE with the NAME a gets b, a TAKEN");
        Build b = new Build();
        b.x.variable(0, 0, 2, 0);
        b.x.procedure(0, 1);
        b.x.procedure(0, 2);
        b.x.parameter(2, 3, 5);
        b.x.body(1, b.print(b.number(4)));
        int inner = b.keep(0, b.taken(3));
        b.x.body(2, inner);
        run("over a link, from a PARAMETER", "4", b, b.perform(b.call(2, b.taken(1))),
            b.perform(b.call(0)));
        int keep = b.keep(3, b.taken(0));
        b.x.body(2, keep);
        CHECK.due("a PARAMETER is no VARIABLE", b.faults(), "2 2 " + keep);
        int n = b.call(1);
        CHECK.argument("KEEP of a CALL", () -> b.x.node(21, 0, n, 0));
    }
}
