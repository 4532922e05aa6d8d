import java.util.ArrayList;
import java.util.List;

/**
 * Programs that a row of numbers makes up, of BREAKS, RETURNS, TAILS, what is BY NAME and kept
 * PROCS alone, in PROCEDURES that are INSIDE each other; compared with the Model.
 */
public final class RandomJumpsTest extends Maker {
    private static final int COUNTER = 0;
    private static final int FIRST_PROC = 1;
    private static final int FIRST_PROCEDURE = 4;
    private static final int BY_NAME = 15;
    private static final int USED_NODES = 96;

    private int limit;

    private RandomJumpsTest(Check check, long number) {
        super(check, number * 6151 + 29);
    }

    public static void main(String[] args) throws InterruptedException {
        Check check = new Check("RandomJumpsTest");
        int[] traps = {0, 3, 5, 6, 7};
        int[] rare = {FAR_BREAK, TAIL, BY_NAME_USED};
        makeAll(check, many(args, 1500), RandomJumpsTest::new, traps, rare);
        check.end();
    }

    @Override
    void make() {
        twin.variable(0, COUNTER, 0, 0);
        twin.variable(0, FIRST_PROC, 2, 0);
        twin.variable(0, FIRST_PROC + 1, 2, 0);
        int procedures = 3 + pick(3);
        for (int p = 1; p <= procedures; p++) {
            // Often INSIDE the one before, so that there are links to go over.
            twin.procedure(pick(3) == 0 ? pick(p) : p - 1, FIRST_PROCEDURE + p);
            if (pick(4) == 0) {
                twin.parameter(p, BY_NAME, 2);
            }
        }
        for (int p = procedures; p >= 0; p--) {
            limit = USED_NODES * (procedures + 1 - p) / (procedures + 1);
            int n = twin.node(16, pick(3), twin.node(0, 0, 0, 0), print(p));
            n = twin.node(12, 0, statements(p, new ArrayList<>(), 3), n);
            if (p == 0 || pick(3) == 0) {
                n = twin.node(16, pick(3), less(), n);
            }
            twin.body(p, n);
        }
        for (int runs = 0; runs < 2; runs++) {
            twin.passes(pick(8));
            twin.limits(50 + pick(700), 2 + pick(12));
            if (twin.model.faults().isEmpty()) {
                twin.run();
            }
        }
        twin.askAll();
    }

    private boolean isRoom() {
        return twin.model.nodes.size() + 10 < limit;
    }

    private int use(int name) {
        return twin.node(1, name, 0, 0);
    }

    private int print(int p) {
        boolean isThere = twin.model.resolve(p, BY_NAME) != null;
        return twin.node(19, 0, use(isThere && pick(3) > 0 ? BY_NAME : COUNTER), 0);
    }

    private int less() {
        return twin.node(7, 0, use(COUNTER), twin.node(0, 2 + pick(12), 0, 0));
    }

    private int count() {
        return twin.node(13, COUNTER, twin.node(3, 0, use(COUNTER), twin.node(0, 1, 0, 0)), 0);
    }

    private int statements(int p, List<Integer> labels, int depth) {
        int n = statement(p, labels, depth);
        for (int k = 1 + pick(3); k > 0 && isRoom(); k--) {
            n = twin.node(12, 0, n, statement(p, labels, depth));
        }
        return n;
    }

    private int statement(int p, List<Integer> labels, int depth) {
        int which = isRoom() ? pick(14) : pick(2);
        if (depth > 0 && which >= 12) {
            int label = pick(3);
            List<Integer> around = new ArrayList<>(labels);
            around.add(label);
            int b = pick(3) == 0 ? call(p) : less();
            int c = statements(p, around, depth - 1);
            return twin.node(16, label, b, twin.node(12, 0, count(), c));
        }
        if (depth > 0 && which >= 10) {
            return twin.node(15, -1, less(), statement(p, labels, depth - 1));
        }
        switch (which) {
            case 0: return count();
            case 1: return print(p);
            case 2: case 3: return leave(p, labels);
            case 4: return twin.node(18, 0, pick(4) == 0 ? use(COUNTER) : call(p), 0);
            case 5: case 6: return keep(p);
            default: return twin.node(20, 0, call(p), 0);
        }
    }

    private int leave(int p, List<Integer> labels) {
        List<Integer> all = new ArrayList<>(labels);
        for (int label = 0; label < 3; label++) {
            // The LOOPS of what is around it come later: that there will be one is likely.
            if (p != 0) {
                all.add(label);
            }
        }
        return all.isEmpty() ? print(p) : twin.node(17, all.get(pick(all.size())), 0, 0);
    }

    /** A PROCEDURE that p can name: its NAME. */
    private int visible(int p, boolean isTaken) {
        for (int tries = 0; tries < 8; tries++) {
            int name = FIRST_PROCEDURE + 1 + pick(twin.model.procs.size() - 1);
            Model.Thing t = twin.model.resolve(p, name);
            if (t != null && (!isTaken || twin.model.areAllValues(t.detail))) {
                return name;
            }
        }
        return -1;
    }

    private int keep(int p) {
        int name = visible(p, true);
        return name < 0 ? print(p)
            : twin.node(21, FIRST_PROC + pick(2), twin.node(10, name, 0, 0), 0);
    }

    private int call(int p) {
        int name = pick(4) == 0 ? FIRST_PROC + pick(2) : visible(p, false);
        Model.Thing t = name < 0 ? null : twin.model.resolve(p, name);
        if (t == null) {
            return twin.node(8, FIRST_PROC, -1, 0);
        }
        int argument = -1;
        if (t.what == 10 && !twin.model.procs.get(t.detail).modes.isEmpty()) {
            argument = twin.node(9, 0, byName(p), -1);
        }
        return twin.node(8, name, argument, 0);
    }

    // What is BY NAME is now and then used, and handed on.
    private int byName(int p) {
        Model.Thing t = twin.model.resolve(p, BY_NAME);
        if (t != null && pick(2) == 0) {
            return use(BY_NAME);
        }
        int name = visible(p, true);
        return name < 0 || pick(3) == 0 ? use(COUNTER)
            : twin.node(3, 0, twin.node(8, name, -1, 0), use(t == null ? COUNTER : BY_NAME));
    }
}
