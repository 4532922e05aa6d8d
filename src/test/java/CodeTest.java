/** Promises 11 and 12: passes, code; and section 5. */
public final class CodeTest {
    private static final Check CHECK = new Check("CodeTest");

    public static void main(String[] args) {
        passes();
        refusals();
        expressions();
        folding();
        calls();
        handedOn();
        statements();
        tails();
        breaks();
        CHECK.end();
    }

    private static void passes() {
        StaticLink x = new StaticLink();
        CHECK.due("passes, 7 at first", x.passes(0), 7);
        CHECK.due("passes, those before", x.passes(5), 0);
        CHECK.argument("passes(8)", () -> x.passes(8));
        CHECK.argument("passes(-1)", () -> x.passes(-1));
        CHECK.due("many(7), behind refused ones", x.many(7), 5);
    }

    private static void refusals() {
        Build b = new Build();
        StaticLink x = b.x;
        CHECK.bounds("code with FAULTS", () -> x.code(0, 0, 0));
        CHECK.bounds("code with FAULTS, ahead of what", () -> x.code(0, 0, 4));
        b.body(0, b.print(b.number(1)));
        CHECK.due("code", x.code(0, 3, 0), 15);
        CHECK.bounds("code, no such place", () -> x.code(0, 4, 4));
        CHECK.bounds("code, place -1", () -> x.code(0, -1, 0));
        CHECK.bounds("code of none such", () -> x.code(1, 0, 0));
        CHECK.bounds("code of -1", () -> x.code(-1, 0, 0));
        CHECK.argument("code, what 4", () -> x.code(0, 0, 4));
        CHECK.argument("code, what -1", () -> x.code(0, 0, -1));
        CHECK.due("length", x.ofProcedure(0, 7), 4);
        x.procedure(0, 1);
        CHECK.due("length with FAULTS", x.ofProcedure(0, 7), 0);
        CHECK.due("length of all with FAULTS", x.many(10), 0);
        b.body(1, b.print(b.number(1)), b.print(b.number(1)));
        CHECK.due("length of all", x.many(10), 10);
    }

    private static void expressions() {
        Build b = new Build();
        b.x.variable(0, 5, 3, -8);
        b.x.variable(0, 0, 0, 0);
        b.x.variable(0, 1, 1, 3);
        b.body(0, b.print(b.add(b.use(0), b.at(1, b.number(2)))), b.print(b.use(5)));
        CHECK.due("USE, AT, ADD, CONSTANT", b.code(0),
            "2 0 0 /4; 1 2 0 /2; 3 0 1 /0; 4 0 0 /0; 26 0 0 /0; "
            + "1 -8 0 /2; 26 0 0 /0; 1 0 0 /0; 15 0 0 /0");
        int[] kinds = {3, 4, 5, 6, 7};
        for (int kind : kinds) {
            int n = b.x.node(kind, 0, b.use(0), b.number(1));
            b.body(0, b.print(n));
            CHECK.due("kind " + kind, b.x.code(0, 2, 0), kind + 1);
        }
        b.x.procedure(0, 9);
        b.x.procedure(1, 9);
        b.x.body(1, b.set(0, b.number(1)));
        b.x.body(2, b.store(1, b.number(0), b.use(0)));
        CHECK.due("over one link", b.code(1), "1 1 0 /2; 19 1 0 /0; 1 0 0 /0; 15 0 0 /0");
        CHECK.due("over two links", b.code(2),
            "1 0 0 /2; 2 2 0 /1; 20 2 1 /0; 1 0 0 /0; 15 0 0 /0");
    }

    private static void folding() {
        Build b = new Build();
        b.x.variable(0, 0, 3, 2);
        int n = b.mul(b.add(b.number(2), b.number(3)), b.sub(b.number(1), b.number(8)));
        b.body(0, b.print(n), b.print(b.less(b.use(0), b.number(9))));
        CHECK.due("FOLDED", b.code(0), "1 -35 0 /9; 26 0 0 /0; "
            + "1 2 0 /3; 1 9 0 /1; 8 0 0 /0; 26 0 0 /0; 1 0 0 /0; 15 0 0 /0");
        CHECK.due("many(5)", b.x.many(5), 3);
        b.x.passes(6);
        CHECK.due("not FOLDED", b.code(0),
            "1 2 0 /5; 1 3 0 /1; 4 0 0 /0; 1 1 0 /2; 1 8 0 /1; 5 0 0 /0; 6 0 0 /0; 26 0 0 /0; "
            + "1 2 0 /3; 1 9 0 /1; 8 0 0 /0; 26 0 0 /0; 1 0 0 /0; 15 0 0 /0");
        b.x.passes(1);
        n = b.div(b.number(-7), b.less(b.number(1), b.number(0)));
        b.body(0, b.print(b.add(n, b.div(b.number(-7), b.number(2)))));
        CHECK.due("a DIV by 0 is not FOLDED", b.code(0), "1 -7 0 /4; 1 0 0 /3; 7 0 0 /0; "
            + "1 -3 0 /3; 4 0 0 /0; 26 0 0 /0; 1 0 0 /0; 15 0 0 /0");
        int wide = b.mul(b.mul(b.number(999), b.number(999)), b.mul(b.number(999), b.number(999)));
        b.body(0, b.print(wide));
        CHECK.due("goes round", b.x.code(0, 0, 1), 999 * 999 * 999 * 999);
        CHECK.due("many(5), IN one alone", b.x.many(5), 3);
    }

    private static void calls() {
        Build b = new Build();
        b.x.variable(0, 0, 2, 0);
        b.x.procedure(0, 1);
        b.x.parameter(1, 2, 0);
        b.x.procedure(1, 3);
        b.x.parameter(2, 4, 0);
        b.x.parameter(2, 5, 0);
        b.body(2, b.perform(b.call(1, b.use(4))), b.keep(0, b.taken(1)),
            b.perform(b.call(3, b.number(1), b.number(2))));
        b.body(1, b.perform(b.call(3, b.use(2), b.number(7))), b.keep(0, b.taken(3)));
        b.body(0, b.print(b.call(0, b.number(4), b.number(5))), b.keep(0, b.taken(0)));
        CHECK.due("GO and CLOSE, from the inner one", b.code(2),
            "2 0 0 /5; 9 2 1 /0; 27 0 0 /0; 18 2 1 /3; 19 2 0 /0; "
            + "1 1 0 /4; 1 2 0 /2; 9 1 2 /0; 27 0 0 /0; 1 0 0 /0; 15 0 0 /0");
        CHECK.due("GO and CLOSE", b.code(1), "2 0 0 /5; 1 7 0 /2; 9 0 2 /0; 27 0 0 /0; "
            + "18 0 2 /2; 19 1 0 /0; 1 0 0 /0; 15 0 0 /0");
        CHECK.due("GOTO, and a PROC that is TAKEN", b.code(0),
            "1 4 0 /5; 1 5 0 /2; 10 0 0 /0; 26 0 0 /0; "
            + "2 0 0 /2; 19 0 0 /0; 1 0 0 /0; 15 0 0 /0");
    }

    private static void handedOn() {
        Build b = new Build();
        b.x.variable(0, 0, 0, 0);
        b.x.variable(0, 1, 1, 2);
        b.x.variable(0, 2, 2, 0);
        b.x.procedure(0, 3);
        b.x.parameter(1, 4, 1);
        b.x.parameter(1, 5, 1);
        b.x.parameter(1, 6, 2);
        b.x.parameter(1, 7, 2);
        b.x.procedure(0, 8);
        b.x.parameter(2, 9, 3);
        b.x.parameter(2, 10, 4);
        b.x.parameter(2, 11, 5);
        b.x.parameter(2, 12, 5);
        b.x.procedure(2, 13);
        b.x.body(3, b.print(b.number(1)));
        b.body(0, b.perform(b.call(3, b.use(0), b.at(1, b.use(0)),
            b.add(b.use(0), b.number(1)), b.add(b.number(1), b.number(1)))));
        CHECK.due("15 ahead of all", b.x.many(3), 2);
        b.body(1, b.perform(b.call(3, b.use(5), b.at(1, b.number(0)), b.use(7), b.number(2))));
        b.body(2, b.perform(b.call(8, b.array(9), b.array(10), b.taken(13), b.taken(12))));
        CHECK.due("REF, REFAT, LATER", b.code(0), "12 0 0 /4; 2 0 0 /3; 13 0 1 /0; "
            + "14 8 0 /1; 2 0 0 /2; 1 1 0 /1; 4 0 0 /0; 15 0 0 /0; "
            + "14 11 0 /1; 1 2 0 /3; 15 0 0 /0; 9 0 1 /0; 27 0 0 /0; 1 0 0 /0; 15 0 0 /0");
        CHECK.due("REF of a REF, BY NAME of BY NAME", b.code(1),
            "12 0 1 /4; 1 0 0 /3; 13 1 1 /0; 14 6 0 /1; 2 0 3 /1; 15 0 0 /0; "
            + "14 9 0 /1; 1 2 0 /1; 15 0 0 /0; 9 1 1 /0; 27 0 0 /0; 1 0 0 /0; 15 0 0 /0");
        CHECK.due("COPY, ARRAY, CLOSE, a PROC", b.code(2), "16 0 0 /4; 17 0 1 /2; 18 0 3 /2; "
            + "2 0 3 /2; 9 1 2 /0; 27 0 0 /0; 1 0 0 /0; 15 0 0 /0");
    }

    private static void statements() {
        Build b = new Build();
        b.x.variable(0, 0, 0, 0);
        b.body(0,
            b.when(b.use(0), b.print(b.number(1)), -1),
            b.when(b.use(0), b.print(b.number(2)), b.print(b.number(3))),
            b.loop(6, b.less(b.use(0), b.number(4)), b.count(0)),
            b.give(b.use(0)));
        CHECK.due("IF, LOOP, RETURN", b.code(0), "2 0 0 /3; 21 4 0 /0; 1 1 0 /2; 26 0 0 /0; "
            + "2 0 0 /3; 21 9 0 /0; 1 2 0 /2; 26 0 0 /0; 22 11 0 /0; 1 3 0 /2; 26 0 0 /0; "
            + "23 6 0 /2; 2 0 0 /2; 1 4 0 /1; 8 0 0 /0; 21 21 0 /0; "
            + "2 0 0 /3; 1 1 0 /1; 4 0 0 /0; 19 0 0 /0; 22 12 0 /0; 24 0 0 /0; "
            + "2 0 0 /2; 15 0 0 /0; 1 0 0 /0; 15 0 0 /0");
        b.x.procedure(0, 1);
        b.body(1, b.loop(0, b.number(1), b.print(b.number(1))));
        CHECK.due("places are those in its own PROCEDURE", b.code(1), "23 0 0 /1; 1 1 0 /1; "
            + "21 6 0 /0; 1 1 0 /2; 26 0 0 /0; 22 1 0 /0; 24 0 0 /0; 1 0 0 /0; 15 0 0 /0");
    }

    private static void tails() {
        Build b = new Build();
        b.x.procedure(0, 1);
        b.x.parameter(1, 2, 0);
        b.body(1, b.when(b.use(2), b.give(b.call(1, b.sub(b.use(2), b.number(1)))),
            b.give(b.call(1, b.number(0)))));
        b.body(0, b.give(b.call(1, b.number(1))));
        CHECK.due("JUMPTO", b.code(1), "2 0 0 /2; 21 7 0 /0; 2 0 0 /5; 1 1 0 /1; 5 0 0 /0; "
            + "11 1 1 /0; 22 9 0 /0; 1 0 0 /4; 11 1 1 /0; 1 0 0 /0; 15 0 0 /0");
        CHECK.due("MAIN has no TAIL", b.code(0),
            "1 1 0 /4; 9 0 1 /0; 15 0 0 /0; 1 0 0 /0; 15 0 0 /0");
        b.x.passes(5);
        CHECK.due("without TAIL", b.code(1), "2 0 0 /2; 21 8 0 /0; 2 0 0 /5; 1 1 0 /1; 5 0 0 /0; "
            + "9 1 1 /0; 15 0 0 /0; 22 11 0 /0; 1 0 0 /4; 9 1 1 /0; 15 0 0 /0; "
            + "1 0 0 /0; 15 0 0 /0");
    }

    private static void breaks() {
        Build b = new Build();
        b.x.procedure(0, 0);
        b.x.procedure(1, 1);
        b.x.procedure(2, 2);
        b.body(0, b.loop(3, b.number(0), b.leave(3)), b.loop(4, b.number(0), b.leave(4)));
        b.body(1, b.loop(4, b.number(0), b.print(b.number(1))));
        b.x.body(2, b.print(b.number(1)));
        b.body(3, b.leave(3), b.leave(4), b.loop(3, b.number(0), b.leave(3)), b.leave(3));
        CHECK.due("LEAVE, of its own", b.x.code(0, 3, 1), 0);
        CHECK.due("LEAVE, its LABEL", b.x.code(0, 3, 2), 3);
        CHECK.due("LEAVE", b.code(3), "25 3 3 /2; 25 2 4 /2; "
            + "23 3 0 /2; 1 0 0 /1; 21 7 0 /0; 25 0 3 /1; 22 3 0 /0; 24 0 0 /0; "
            + "25 3 3 /1; 1 0 0 /0; 15 0 0 /0");
    }
}
