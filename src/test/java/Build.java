/** A StaticLink, and short ways to add NODES to it. */
final class Build {
    final StaticLink x = new StaticLink();

    int number(int v) {
        return x.node(0, v, 0, 0);
    }

    int use(int name) {
        return x.node(1, name, 0, 0);
    }

    int at(int name, int b) {
        return x.node(2, name, b, 0);
    }

    int add(int b, int c) {
        return x.node(3, 0, b, c);
    }

    int sub(int b, int c) {
        return x.node(4, 0, b, c);
    }

    int mul(int b, int c) {
        return x.node(5, 0, b, c);
    }

    int div(int b, int c) {
        return x.node(6, 0, b, c);
    }

    int less(int b, int c) {
        return x.node(7, 0, b, c);
    }

    /** A CALL, with an ARGUMENT around each of the handed; these are added from the last on. */
    int call(int name, int... handed) {
        int next = -1;
        for (int k = handed.length - 1; k >= 0; k--) {
            next = x.node(9, 0, handed[k], next);
        }
        return x.node(8, name, next, 0);
    }

    int taken(int name) {
        return x.node(10, name, 0, 0);
    }

    int array(int name) {
        return x.node(11, name, 0, 0);
    }

    /** All of them, as SEQ, from the first to the last. */
    int seq(int... statements) {
        int all = statements[statements.length - 1];
        for (int k = statements.length - 2; k >= 0; k--) {
            all = x.node(12, 0, statements[k], all);
        }
        return all;
    }

    int set(int name, int b) {
        return x.node(13, name, b, 0);
    }

    int store(int name, int b, int c) {
        return x.node(14, name, b, c);
    }

    /** IF b, then; otherwise (or -1). */
    int when(int b, int then, int otherwise) {
        return x.node(15, otherwise, b, then);
    }

    int loop(int label, int b, int c) {
        return x.node(16, label, b, c);
    }

    int leave(int label) {
        return x.node(17, label, 0, 0);
    }

    int give(int b) {
        return x.node(18, 0, b, 0);
    }

    int print(int b) {
        return x.node(19, 0, b, 0);
    }

    int perform(int call) {
        return x.node(20, 0, call, 0);
    }

    int keep(int name, int taken) {
        return x.node(21, name, taken, 0);
    }

    /** SETS a NUMBER to itself and one more. */
    int count(int name) {
        return set(name, add(use(name), number(1)));
    }

    void body(int p, int... statements) {
        x.body(p, seq(statements));
    }

    /** What was PRINTED in the latest run, as text. */
    String printed() {
        StringBuilder all = new StringBuilder();
        for (int k = 0; k < Math.min(50, x.ofRun(4)); k++) {
            all.append(k == 0 ? "" : " ").append(x.printed(k, 0));
        }
        return all.toString();
    }

    /** The CODE of a PROCEDURE: which, operands, how many NODES begin. */
    String code(int p) {
        StringBuilder all = new StringBuilder();
        for (int k = 0; k < x.ofProcedure(p, 7); k++) {
            all.append(k == 0 ? "" : "; ").append(x.code(p, k, 0)).append(' ')
                .append(x.code(p, k, 1)).append(' ').append(x.code(p, k, 2)).append(" /")
                .append(x.code(p, k, 3));
        }
        return all.toString();
    }

    /** All FAULTS: which, PROCEDURE, NODE. */
    String faults() {
        StringBuilder all = new StringBuilder();
        for (int k = 0; k < x.many(3); k++) {
            all.append(k == 0 ? "" : "; ").append(x.fault(k, 0)).append(' ')
                .append(x.fault(k, 1)).append(' ').append(x.fault(k, 2));
        }
        return all.toString();
    }

    /** ofRun() of 0 to 9. */
    String ofRun() {
        StringBuilder all = new StringBuilder();
        for (int what = 0; what <= 9; what++) {
            all.append(what == 0 ? "" : " ").append(x.ofRun(what));
        }
        return all.toString();
    }
}
