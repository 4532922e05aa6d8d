/**
 * The long sentence of section 5 that tells the instructions: each piece of it stands ahead of the
 * CODE of a NODE of that kind, alone in its BODY.
 */
public final class InstructionsSentencesTest {
    private static final Check CHECK = new Check("InstructionsSentencesTest");
    private static final String END = "1 0 0 /0; 15 0 0 /0";

    public static void main(String[] args) {
        pushes();
        gets();
        two();
        calls();
        tails();
        handedOn();
        takens();
        seqSetStore();
        branches();
        loops();
        leaves();
        others();
        CHECK.end();
    }

    /** MAIN: 0 a NUMBER, 1 an array, 2 a PROC, 3 a CONSTANT; 4 is PROCEDURE 1, in it 5 is 2. */
    private static Build declared(int... modes) {
        Build b = new Build();
        b.x.variable(0, 0, 0, 0);
        b.x.variable(0, 1, 1, 4);
        b.x.variable(0, 2, 2, 0);
        b.x.variable(0, 3, 3, -77);
        b.x.procedure(0, 4);
        for (int k = 0; k < modes.length; k++) {
            b.x.parameter(1, 6 + k, modes[k]);
        }
        b.x.procedure(1, 5);
        b.x.body(0, b.leave(0));
        b.x.body(1, b.print(b.number(0)));
        b.x.body(2, b.print(b.number(0)));
        return b;
    }

    /** The CODE of PROCEDURE p with that BODY, but for the PUSH 0 and the BACK at its end. */
    private static void code(String want, Build b, int p, int n) {
        b.x.body(p, n);
        if (p != 0) {
            b.x.body(0, b.print(b.number(0)));
        }
        CHECK.due("CODE", b.code(p), want + "; " + END);
    }

    private static void pushes() {
        CHECK.says("of NUMBER, a CONSTANT, what is FOLDED: 1 PUSH n");
        Build b = declared();
        code("1 -9 0 /2; 26 0 0 /0", b, 0, b.print(b.number(-9)));
        code("1 -77 0 /2; 26 0 0 /0", b, 0, b.print(b.use(3)));
        code("1 12 0 /4; 26 0 0 /0", b, 0, b.print(b.mul(b.number(3), b.number(4))));
        code("1 -77 0 /2; 26 0 0 /0", b, 2, b.print(b.use(3)));
    }

    private static void gets() {
        CHECK.says("of USE: 2 GET x y; of AT: b, then 3 PICK x y");
        Build b = declared(0, 1, 2);
        code("2 0 0 /2; 26 0 0 /0", b, 0, b.print(b.use(0)));
        for (int k = 0; k < 3; k++) {
            code("2 0 " + k + " /2; 26 0 0 /0", b, 1, b.print(b.use(6 + k)));
            code("2 1 " + k + " /2; 26 0 0 /0", b, 2, b.print(b.use(6 + k)));
        }
        code("2 2 0 /2; 26 0 0 /0", b, 2, b.print(b.use(0)));
        code("1 3 0 /3; 3 0 1 /0; 26 0 0 /0", b, 0, b.print(b.at(1, b.number(3))));
        code("2 2 0 /3; 3 2 1 /0; 26 0 0 /0", b, 2, b.print(b.at(1, b.use(0))));
    }

    private static void two() {
        CHECK.says("of 3 to 7: b, c, then that number and 1 (4 to 8)");
        for (int kind = 3; kind <= 7; kind++) {
            Build b = declared();
            code("2 0 0 /3; 1 5 0 /1; " + (kind + 1) + " 0 0 /0; 26 0 0 /0", b, 0,
                b.print(b.x.node(kind, 0, b.use(0), b.number(5))));
            b.x.passes(6);
            code("1 6 0 /3; 1 5 0 /1; " + (kind + 1) + " 0 0 /0; 26 0 0 /0", b, 0,
                b.print(b.x.node(kind, 0, b.number(6), b.number(5))));
        }
    }

    private static void calls() {
        CHECK.says("of CALL: the ARGUMENTS, one behind the other, then 9 GO h p, or, of a PROC, 10 "
            + "GOTO x y");
        Build b = declared(0, 0);
        code("1 8 0 /4; 2 0 0 /2; 9 0 1 /0; 26 0 0 /0", b, 0,
            b.print(b.call(4, b.number(8), b.use(0))));
        code("9 0 2 /2; 26 0 0 /0", b, 1, b.print(b.call(5)));
        code("9 1 2 /2; 26 0 0 /0", b, 2, b.print(b.call(5)));
        code("1 8 0 /4; 1 9 0 /2; 9 2 1 /0; 26 0 0 /0", b, 2,
            b.print(b.call(4, b.number(8), b.number(9))));
        code("10 0 2 /2; 26 0 0 /0", b, 0, b.print(b.call(2)));
        code("1 8 0 /4; 10 2 2 /0; 26 0 0 /0", b, 2, b.print(b.call(2, b.number(8))));
        Build c = declared(5);
        code("10 1 0 /2; 26 0 0 /0", c, 2, c.print(c.call(6)));
    }

    private static void tails() {
        CHECK.says("of a RETURN that is a TAIL, with TAIL, 11 JUMPTO h p instead of that, and no "
            + "BACK; of RETURN: b, 15 BACK");
        for (int passes = 0; passes <= 7; passes++) {
            Build b = declared(0);
            b.x.passes(passes);
            boolean isJump = (passes & 2) != 0;
            code(isJump ? "1 8 0 /4; 11 1 1 /0" : "1 8 0 /4; 9 1 1 /0; 15 0 0 /0", b, 1,
                b.give(b.call(4, b.number(8))));
            code(isJump ? "11 1 2 /2" : "9 1 2 /2; 15 0 0 /0", b, 2, b.give(b.call(5)));
            b.x.body(1, b.print(b.number(1)));
            code("9 0 2 /2; 15 0 0 /0", b, 1, b.give(b.call(5)));
            code("10 0 2 /2; 15 0 0 /0", b, 0, b.give(b.call(2)));
            code("1 8 0 /4; 9 0 1 /0; 15 0 0 /0", b, 0, b.give(b.call(4, b.number(8))));
            code("1 8 0 /2; 15 0 0 /0", b, 0, b.give(b.number(8)));
        }
    }

    private static void handedOn() {
        CHECK.says("of what is handed on: VALUE its code; REF: 12 REF x y, or, of an AT, b, then "
            + "13 REFAT x y; BY NAME: 14 LATER t, its code, 15 BACK, with t behind that; COPY 16 "
            + "and ARRAY 17 x y");
        String end = "; 9 0 1 /0; 27 0 0 /0";
        Build v = declared(0);
        code("2 0 0 /4" + end, v, 0, v.perform(v.call(4, v.use(0))));
        code("1 1 0 /5; 3 0 1 /0" + end, v, 0, v.perform(v.call(4, v.at(1, v.number(1)))));
        Build r = declared(1);
        code("12 0 0 /4" + end, r, 0, r.perform(r.call(4, r.use(0))));
        code("1 1 0 /5; 13 0 1 /0" + end, r, 0, r.perform(r.call(4, r.at(1, r.number(1)))));
        code("12 1 0 /4; 9 2 1 /0; 27 0 0 /0", r, 2, r.perform(r.call(4, r.use(6))));
        Build n = declared(2);
        code("14 3 0 /3; 2 0 0 /1; 15 0 0 /0" + end, n, 0, n.perform(n.call(4, n.use(0))));
        code("14 3 0 /3; 1 7 0 /3; 15 0 0 /0" + end, n, 0,
            n.perform(n.call(4, n.add(n.number(3), n.number(4)))));
        code("14 4 0 /3; 1 1 0 /2; 3 0 1 /0; 15 0 0 /0" + end, n, 0,
            n.perform(n.call(4, n.at(1, n.number(1)))));
        int mode = 16;
        for (int which = 3; which <= 4; which++) {
            Build a = declared(which);
            code(mode + " 0 1 /4" + end, a, 0, a.perform(a.call(4, a.array(1))));
            code(mode + " 1 0 /4; 9 2 1 /0; 27 0 0 /0", a, 2, a.perform(a.call(4, a.array(6))));
            mode++;
        }
    }

    private static void takens() {
        CHECK.says("TAKEN: 18 CLOSE h p, or, of a PROC, 2 GET x y; of KEEP: b, 19 PUT x y");
        Build b = declared();
        code("18 0 1 /2; 19 0 2 /0", b, 0, b.keep(2, b.taken(4)));
        code("2 0 2 /2; 19 0 2 /0", b, 0, b.keep(2, b.taken(2)));
        code("18 1 2 /2; 19 2 2 /0", b, 2, b.keep(2, b.taken(5)));
        code("18 2 1 /2; 19 2 2 /0", b, 2, b.keep(2, b.taken(4)));
        code("2 2 2 /2; 19 2 2 /0", b, 2, b.keep(2, b.taken(2)));
        Build p = declared(5);
        code("2 0 2 /4; 9 0 1 /0; 27 0 0 /0", p, 0,
            p.perform(p.call(4, p.taken(2))));
        code("18 1 2 /4; 9 2 1 /0; 27 0 0 /0", p, 2, p.perform(p.call(4, p.taken(5))));
        code("2 1 0 /4; 9 2 1 /0; 27 0 0 /0", p, 2, p.perform(p.call(4, p.taken(6))));
    }

    private static void seqSetStore() {
        CHECK.says("Of SEQ: b, c; of SET: b, then 19 PUT x y; of STORE: b, c, then 20 STOW x y");
        Build b = declared(0);
        code("1 1 0 /3; 26 0 0 /0; 1 2 0 /2; 26 0 0 /0", b, 0,
            b.seq(b.print(b.number(1)), b.print(b.number(2))));
        code("1 1 0 /2; 19 0 0 /0", b, 0, b.set(0, b.number(1)));
        code("1 1 0 /2; 19 1 0 /0", b, 2, b.set(6, b.number(1)));
        code("1 1 0 /2; 2 0 0 /1; 20 0 1 /0", b, 0, b.store(1, b.number(1), b.use(0)));
        code("2 2 0 /2; 1 1 0 /1; 20 2 1 /0", b, 2, b.store(1, b.use(0), b.number(1)));
    }

    private static void branches() {
        CHECK.says("of IF: b, 21 UNLESS t, c, and, if there is an a, 22 SKIP t, a: t is behind c "
            + "(and SKIP), and behind a");
        Build b = declared();
        code("2 0 0 /2; 21 4 0 /0; 1 1 0 /2; 26 0 0 /0", b, 0,
            b.when(b.use(0), b.print(b.number(1)), -1));
        code("2 0 0 /2; 21 5 0 /0; 1 1 0 /2; 26 0 0 /0; 22 7 0 /0; 1 2 0 /2; 26 0 0 /0", b, 0,
            b.when(b.use(0), b.print(b.number(1)), b.print(b.number(2))));
        code("1 1 0 /4; 21 4 0 /0; 1 1 0 /2; 26 0 0 /0", b, 0,
            b.when(b.sub(b.number(4), b.number(3)), b.print(b.number(1)), -1));
    }

    private static void loops() {
        CHECK.says("of LOOP: 23 OPEN a, b, 21 UNLESS t, c, 22 SKIP to where b begins, 24 SHUT, "
            + "with t there");
        Build b = declared();
        code("23 9 0 /1; 2 0 0 /1; 21 6 0 /0; 1 1 0 /2; 26 0 0 /0; 22 1 0 /0; 24 0 0 /0", b, 0,
            b.loop(9, b.use(0), b.print(b.number(1))));
        code("1 1 0 /3; 26 0 0 /0; 23 0 0 /1; 1 1 0 /1; 21 8 0 /0; 1 1 0 /2; 26 0 0 /0; 22 3 0 /0; "
            + "24 0 0 /0", b, 2, b.seq(b.print(b.number(1)), b.loop(0, b.number(1),
            b.print(b.number(1)))));
    }

    private static void leaves() {
        CHECK.says("of BREAK: 25 LEAVE 0 a, with a LOOP of its own, otherwise 25 LEAVE h a, with "
            + "the HOPS to the PROCEDURE with the LOOP");
        Build b = declared();
        code("23 9 0 /1; 1 0 0 /1; 21 5 0 /0; 25 0 9 /1; 22 1 0 /0; 24 0 0 /0", b, 0,
            b.loop(9, b.number(0), b.leave(9)));
        b.x.body(2, b.leave(9));
        CHECK.due("two HOPS", b.code(2), "25 2 9 /1; " + END);
        b.x.body(1, b.loop(9, b.number(0), b.print(b.number(0))));
        CHECK.due("one HOP", b.code(2), "25 1 9 /1; " + END);
    }

    private static void others() {
        CHECK.says("of PRINT: b, 26 PRINT; of DO: b, 27 DROP");
        Build b = declared();
        code("2 0 0 /2; 26 0 0 /0", b, 0, b.print(b.use(0)));
        code("9 0 1 /2; 27 0 0 /0", b, 0, b.perform(b.call(4)));
    }
}
