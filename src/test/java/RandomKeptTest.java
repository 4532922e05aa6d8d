/**
 * Programs that a row of numbers makes up, of PROCEDURES that are kept in PROCS and CALLED when
 * the FRAME to which they are linked has ended: VARIABLES outlive it; compared with the Model.
 */
public final class RandomKeptTest extends Maker {
    private static final int COUNTER = 0;
    private static final int FIRST_PROC = 1;
    private static final int FIRST_PROCEDURE = 3;
    private static final int CELL = 10;
    private static final int ROW = 11;
    private static final int OWN_PROC = 12;
    private static final int FIRST_PARAMETER = 13;
    private static final int USED_NODES = 100;

    private int limit;

    private RandomKeptTest(Check check, long number) {
        super(check, number * 5003 + 41);
    }

    public static void main(String[] args) throws InterruptedException {
        Check check = new Check("RandomKeptTest");
        int[] traps = {0, 2, 3, 4, 6, 7};
        int[] rare = {TAIL, BY_NAME_USED, ENDED_FRAME_USED};
        makeAll(check, many(args, 1500), RandomKeptTest::new, traps, rare);
        check.end();
    }

    @Override
    void make() {
        twin.variable(0, COUNTER, 0, 0);
        twin.variable(0, FIRST_PROC, 2, 0);
        twin.variable(0, FIRST_PROC + 1, 2, 0);
        int procedures = 2 + pick(4);
        for (int p = 1; p <= procedures; p++) {
            twin.procedure(pick(4) == 0 ? pick(p) : p - 1, FIRST_PROCEDURE + p);
            parameters(p);
        }
        for (int p = 0; p <= procedures; p++) {
            variables(p);
        }
        for (int p = procedures; p >= 0; p--) {
            limit = USED_NODES * (procedures + 1 - p) / (procedures + 1);
            int first = p == 0 ? filled() : keep(p);
            int n = twin.node(12, 0, twin.node(12, 0, count(), first), statements(p, 2));
            twin.body(p, p == 0 ? twin.node(16, 0, less(20), n) : n);
        }
        for (int runs = 0; runs < 2; runs++) {
            twin.passes(pick(8));
            twin.limits(200 + pick(1500), 4 + pick(16));
            if (twin.model.faults().isEmpty()) {
                twin.run();
            }
        }
        twin.askAll();
    }

    // What is TAKEN has VALUES alone, so most have.
    private void parameters(int p) {
        boolean isTaken = pick(3) > 0;
        for (int k = pick(isTaken ? pick(3) == 0 ? 2 : 1 : 3); k > 0; k--) {
            twin.parameter(p, FIRST_PARAMETER + k, isTaken ? 0 : pick(6));
        }
    }

    private void variables(int p) {
        if (p == 0 || pick(3) > 0) {
            twin.variable(p, CELL, 0, 0);
        }
        if (p == 0 || pick(2) == 0) {
            twin.variable(p, ROW, 1, 2 + pick(2));
        }
        if (pick(8) == 0) {
            twin.variable(p, OWN_PROC, 2, 0);
        }
    }

    /** MAIN's PROCS are EMPTY no more, and one PROCEDURE, that may keep others, is CALLED. */
    private int filled() {
        int n = print(0);
        for (int k = 0; k < 2; k++) {
            int name = takeable(0);
            n = name < 0 ? n : twin.node(12, 0,
                twin.node(21, FIRST_PROC + k, twin.node(10, name, 0, 0), 0), n);
        }
        int call = call(0, "p");
        return call < 0 ? n : twin.node(12, 0, n, twin.node(20, 0, call, 0));
    }

    private boolean isRoom(int more) {
        return twin.model.nodes.size() + more < limit;
    }

    private int number(int bound) {
        return twin.node(0, pick(bound), 0, 0);
    }

    private int less(int bound) {
        return twin.node(7, 0, twin.node(1, COUNTER, 0, 0), number(bound));
    }

    private int count() {
        return twin.node(13, COUNTER, twin.node(3, 0, twin.node(1, COUNTER, 0, 0),
            twin.node(0, 1, 0, 0)), 0);
    }

    private int statements(int p, int depth) {
        int n = statement(p, depth);
        while (isRoom(14)) {
            n = twin.node(12, 0, n, statement(p, depth));
        }
        return n;
    }

    private int statement(int p, int depth) {
        int name;
        switch (isRoom(12) ? pick(12) : 11) {
            case 0: case 1:
                name = nameOf(p, "016");
                return twin.node(13, name, expression(p, depth), 0);
            case 2: case 3:
                name = nameOf(p, "347");
                return twin.node(14, name, number(pick(20) == 0 ? 4 : 2), expression(p, depth));
            case 4: case 5:
                return keep(p);
            case 6: case 7: case 8: {
                int call = call(p, pick(2) == 0 ? "58" : "p");
                return call < 0 ? print(p) : twin.node(15, -1, less(9), twin.node(20, 0, call, 0));
            }
            case 9: {
                int call = p == 0 ? -1 : call(p, "p");
                return call < 0 ? print(p) : twin.node(15, -1, less(9), twin.node(18, 0, call, 0));
            }
            default:
                return print(p);
        }
    }

    private int print(int p) {
        return twin.node(19, 0, expression(p, 1), 0);
    }

    private int expression(int p, int depth) {
        int which = isRoom(8) ? pick(8) : 0;
        if (which <= 2 || depth <= 0) {
            return twin.node(1, nameOf(p, "01266"), 0, 0);
        }
        if (which <= 4) {
            return twin.node(2, nameOf(p, "347"), number(pick(20) == 0 ? 4 : 2), 0);
        }
        if (which <= 6) {
            return twin.node(3 + pick(3), 0, expression(p, depth - 1), expression(p, depth - 1));
        }
        int call = call(p, "58");
        return call < 0 ? number(5) : call;
    }

    private int keep(int p) {
        int name = takeable(p);
        return name < 0 ? print(p) : twin.node(21, nameOf(p, "8"), twin.node(10, name, 0, 0), 0);
    }

    // Those with the greatest number of HOPS to MAIN are the most likely to outlive something.
    private int takeable(int p) {
        for (int tries = 0; tries < 8; tries++) {
            int name = nameOf(p, pick(6) == 0 ? "58" : "p");
            Model.Thing t = name < 0 ? null : twin.model.resolve(p, name);
            boolean isRight = t != null && (t.what != 10 || twin.model.areAllValues(t.detail));
            if (isRight && (t.what != 10 || t.owner == p || tries > 4)) {
                return name;
            }
        }
        return -1;
    }

    /** A CALL; -1, if none can be. */
    private int call(int p, String those) {
        int name = nameOf(p, those);
        if (name < 0) {
            return -1;
        }
        Model.Thing t = twin.model.resolve(p, name);
        int many = pick(6) == 0 ? 1 : 0;
        if (t.what == 10) {
            many = twin.model.procs.get(t.detail).modes.size();
        }
        int next = -1;
        for (int k = many - 1; k >= 0; k--) {
            int mode = t.what == 10 ? twin.model.procs.get(t.detail).modes.get(k) : 0;
            int n = handed(p, mode);
            if (n < 0) {
                return -1;
            }
            next = twin.node(9, 0, n, next);
        }
        return twin.node(8, name, next, 0);
    }

    private int handed(int p, int mode) {
        switch (mode) {
            case 1:
                return pick(3) == 0 ? twin.node(2, nameOf(p, "347"), number(2), 0)
                    : twin.node(1, nameOf(p, "016"), 0, 0);
            case 3: case 4:
                return twin.node(11, nameOf(p, "347"), 0, 0);
            case 5: {
                int name = takeable(p);
                return name < 0 ? -1 : twin.node(10, name, 0, 0);
            }
            default:
                return expression(p, 1);
        }
    }
}
