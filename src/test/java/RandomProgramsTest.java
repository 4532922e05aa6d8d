import java.util.ArrayList;
import java.util.List;

/**
 * Programs that a row of numbers makes up, most of them without faults, and all that can be asked
 * of them, compared with the Model.
 */
public final class RandomProgramsTest extends Maker {
    private static final int USED_NODES = 104;

    private final int wrongOfHundred;

    private RandomProgramsTest(Check check, long number) {
        super(check, number * 7919 + 17);
        this.wrongOfHundred = number % 10 == 0 ? 4 : 0;
    }

    public static void main(String[] args) throws InterruptedException {
        Check check = new Check("RandomProgramsTest");
        int[] traps = {0, 1, 2, 3, 4, 5, 6, 7};
        int[] rare = {FAR_BREAK, TAIL, BY_NAME_USED};
        makeAll(check, many(args, 1500), RandomProgramsTest::new, traps, rare);
        check.end();
    }

    @Override
    void make() {
        int procedures = pick(9) + (pick(3) == 0 ? 0 : 1);
        for (int k = 0; k < procedures && k < 9; k++) {
            twin.procedure(pick(3) == 0 ? 0 : pick(twin.model.procs.size()), pick(16));
        }
        int made = twin.model.procs.size();
        for (int p = 0; p < made; p++) {
            declare(p);
        }
        for (int p = 0; p < made; p++) {
            int left = USED_NODES - twin.model.nodes.size();
            int share = p == made - 1 ? left : left * 3 / (2 * (made - p)) + 1;
            int limit = Math.min(USED_NODES, twin.model.nodes.size() + share);
            twin.body(p, statements(p, limit, new ArrayList<>(), 4));
        }
        if (pick(3) == 0) {
            twin.passes(pick(8));
        }
        if (pick(2) == 0) {
            twin.limits(200 + pick(2801), 1 + pick(40));
        }
        twin.run();
        twin.askAll();
        change();
        twin.askAll();
    }

    // A few changes at the end, so that what was found before is found anew.
    private void change() {
        twin.passes(pick(8));
        twin.variable(pick(twin.model.procs.size()), pick(16), pick(4), 0);
        if (pick(4) == 0) {
            int n = twin.node(19, 0, twin.node(0, pick(50), 0, 0), 0);
            twin.body(pick(twin.model.procs.size()), n);
        }
        if (pick(2) == 0) {
            twin.run();
        }
    }

    private void declare(int p) {
        int parameters = p == 0 || pick(3) == 0 ? 0 : 1 + pick(pick(2) == 0 ? 4 : 2);
        boolean isPlain = pick(3) == 0;
        for (int k = 0; k < parameters; k++) {
            twin.parameter(p, pick(16), isPlain ? 0 : pick(6));
        }
        int variables = p == 0 ? 3 + pick(4) : pick(4);
        for (int k = 0; k < variables; k++) {
            int kind = pick(3) == 0 ? 0 : pick(4);
            twin.variable(p, pick(16), kind, kind == 1 ? 1 + pick(5) : kind == 3 ? pick(9) : 0);
        }
    }

    /** A NAME that is one of these in p, or, now and then, any; -1, if there is none. */
    private int name(int p, String those) {
        if (pick(100) < wrongOfHundred) {
            return pick(16);
        }
        return nameOf(p, those);
    }

    private boolean isRoom(int limit, int nodes) {
        return twin.model.nodes.size() + nodes <= limit && twin.model.nodes.size() < 100;
    }

    private int number() {
        return twin.node(0, pick(5) == 0 ? pick(1999) - 999 : pick(5), 0, 0);
    }

    private int expression(int p, int limit, int depth) {
        int which = pick(12);
        if (!isRoom(limit, 6) || depth <= 0 || which == 0) {
            return number();
        }
        int name;
        if (which <= 4) {
            name = name(p, "012269");
            return name < 0 ? number() : twin.node(1, name, 0, 0);
        }
        if (which == 5) {
            name = name(p, "347");
            return name < 0 ? number() : twin.node(2, name, index(p, limit, depth), 0);
        }
        if (which <= 8) {
            int b = expression(p, limit, depth - 1);
            int c = expression(p, limit, depth - 1);
            return twin.node(pick(3) == 0 ? 3 : 3 + pick(5), 0, b, c);
        }
        int call = call(p, limit, depth);
        return call < 0 ? number() : call;
    }

    private int index(int p, int limit, int depth) {
        return pick(4) == 0 ? expression(p, limit, depth - 1) : twin.node(0, pick(3), 0, 0);
    }

    /** A CALL; -1, if none can be. */
    private int call(int p, int limit, int depth) {
        int name = name(p, pick(3) == 0 ? "58" : "p");
        if (name < 0 || !isRoom(limit, 10)) {
            return -1;
        }
        Model.Thing t = twin.model.resolve(p, name);
        List<Integer> handed = new ArrayList<>();
        if (t != null && t.what == 10) {
            for (int mode : twin.model.procs.get(t.detail).modes) {
                int n = handed(p, mode, limit, depth);
                if (n < 0) {
                    return -1;
                }
                handed.add(n);
            }
        } else {
            for (int k = pick(pick(2) == 0 ? 3 : 2); k > 0; k--) {
                handed.add(expression(p, limit, depth - 1));
            }
        }
        if (wrongOfHundred > 0 && pick(20) == 0) {
            handed.add(number());
        }
        int next = -1;
        for (int k = handed.size() - 1; k >= 0; k--) {
            next = twin.node(9, 0, handed.get(k), next);
        }
        return twin.node(8, name, next, 0);
    }

    private int handed(int p, int mode, int limit, int depth) {
        if (pick(100) < wrongOfHundred) {
            return expression(p, limit, depth - 1);
        }
        int name;
        switch (mode) {
            case 1:
                name = name(p, "347");
                if (name >= 0 && pick(2) == 0) {
                    return twin.node(2, name, index(p, limit, depth), 0);
                }
                name = name(p, "016");
                return name < 0 ? -1 : twin.node(1, name, 0, 0);
            case 3: case 4:
                name = name(p, "347");
                return name < 0 ? -1 : twin.node(11, name, 0, 0);
            case 5:
                return taken(p);
            default:
                return expression(p, limit, depth - 1);
        }
    }

    private int taken(int p) {
        for (int tries = 0; tries < 6; tries++) {
            int name = name(p, pick(4) == 0 ? "58" : "p");
            Model.Thing t = name < 0 ? null : twin.model.resolve(p, name);
            if (t != null && (t.what != 10 || twin.model.areAllValues(t.detail))) {
                return twin.node(10, name, 0, 0);
            }
        }
        return -1;
    }

    private int statements(int p, int limit, List<Integer> labels, int depth) {
        int n = statement(p, limit, labels, depth);
        int many = depth == 4 ? 6 : 1 + pick(2);
        for (int k = 1; k < many && isRoom(limit, 12); k++) {
            n = twin.node(12, 0, n, statement(p, limit, labels, depth));
        }
        return n;
    }

    private int statement(int p, int limit, List<Integer> labels, int depth) {
        int which = pick(16);
        if (isRoom(limit, 14) && depth > 0) {
            if (which <= 1) {
                return loop(p, limit, labels, depth);
            }
            if (which <= 4) {
                int b = expression(p, limit, 2);
                int c = statements(p, limit, labels, depth - 1);
                int a = pick(2) == 0 ? -1 : statement(p, limit, labels, depth - 1);
                return twin.node(15, a, b, c);
            }
        }
        int name;
        int call;
        switch (which) {
            case 5: case 6:
                name = name(p, "016");
                return name < 0 ? print(p, limit)
                    : twin.node(13, name, expression(p, limit, 3), 0);
            case 7:
                name = name(p, "347");
                return name < 0 ? print(p, limit)
                    : twin.node(14, name, index(p, limit, 2), expression(p, limit, 2));
            case 8: case 9:
                call = call(p, limit, 3);
                return call < 0 ? print(p, limit) : twin.node(20, 0, call, 0);
            case 10:
                call = p == 0 ? -1 : call(p, limit, 3);
                return call < 0 ? print(p, limit) : twin.node(18, 0, call, 0);
            case 11:
                return p == 0 && pick(4) > 0 ? print(p, limit)
                    : twin.node(18, 0, expression(p, limit, 3), 0);
            case 12: case 13:
                name = name(p, "8");
                int taken = name < 0 ? -1 : taken(p);
                return taken < 0 ? print(p, limit) : twin.node(21, name, taken, 0);
            case 14:
                return leave(p, limit, labels);
            default:
                return print(p, limit);
        }
    }

    private int print(int p, int limit) {
        return twin.node(19, 0, expression(p, limit, 3), 0);
    }

    private int leave(int p, int limit, List<Integer> labels) {
        List<Integer> all = new ArrayList<>(labels);
        for (int at = p; at >= 0; at = twin.model.procs.get(at).parent) {
            for (int label = 0; label <= 9 && at != p; label++) {
                if (twin.model.hasLoop(at, label)) {
                    all.add(label);
                    all.add(label);
                }
            }
        }
        if (pick(100) < wrongOfHundred) {
            return twin.node(17, pick(10), 0, 0);
        }
        return all.isEmpty() ? print(p, limit) : twin.node(17, all.get(pick(all.size())), 0, 0);
    }

    // With a variable that counts, where there is one; otherwise a BREAK at the end of it.
    private int loop(int p, int limit, List<Integer> labels, int depth) {
        int label = pick(4);
        List<Integer> around = new ArrayList<>(labels);
        around.add(label);
        int name = name(p, "06");
        if (name < 0 || pick(4) == 0) {
            int b = expression(p, limit, 2);
            int c = statements(p, limit, around, depth - 1);
            return twin.node(16, label, b, twin.node(12, 0, c, twin.node(17, label, 0, 0)));
        }
        int b = twin.node(7, 0, twin.node(1, name, 0, 0), twin.node(0, 2 + pick(3), 0, 0));
        int one = twin.node(3, 0, twin.node(1, name, 0, 0), twin.node(0, 1, 0, 0));
        int set = twin.node(13, name, one, 0);
        int c = statements(p, limit, around, depth - 1);
        return twin.node(16, label, b, twin.node(12, 0, set, c));
    }
}
