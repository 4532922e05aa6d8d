/**
 * Calls with any arguments, right and wrong ones, on new objects: what they answer and what they
 * throw is compared with the Model; a call that is refused must change nothing.
 */
public final class RandomCallsTest extends Maker {
    private static final int[] EDGES = {-1, -2, 0, 1, 5, 9, 10, 15, 16, 21, 22, 99, 100, 109, 110,
        999, 1000, Integer.MAX_VALUE, Integer.MIN_VALUE};

    private RandomCallsTest(Check check, long number) {
        super(check, number * 104729 + 3);
    }

    public static void main(String[] args) throws InterruptedException {
        Check check = new Check("RandomCallsTest");
        makeAll(check, many(args, 300), RandomCallsTest::new, new int[0], new int[0]);
        check.end();
    }

    @Override
    void make() {
        for (int call = 0; call < 400; call++) {
            call();
        }
        twin.askAll();
    }

    private int any(int bound) {
        return pick(25) == 0 ? EDGES[pick(EDGES.length)] : pick(bound);
    }

    private int anyPart() {
        int many = twin.model.nodes.size();
        return pick(12) == 0 || many == 0 ? any(20) : many - 1 - pick(Math.min(many, 6));
    }

    private void call() {
        int which = pick(20);
        int procedures = twin.model.procs.size();
        if (which == 0) {
            twin.procedure(any(procedures), any(16));
        } else if (which == 1) {
            twin.parameter(any(procedures), any(16), any(6));
        } else if (which == 2) {
            int kind = any(4);
            twin.variable(any(procedures), any(16), kind, kind == 0 || kind == 2 ? any(1) : any(9));
        } else if (which == 3) {
            twin.body(any(procedures), anyPart());
        } else if (which == 4) {
            twin.passes(any(8));
        } else if (which == 5) {
            twin.limits(any(3001), any(41));
        } else if (which == 6) {
            twin.run();
        } else if (which == 7) {
            ask();
        } else {
            node();
        }
    }

    private void node() {
        int kind = any(22);
        String forms = "#00N00Ne00ee0ee0ee0ee0eeNA00hAN00N000ssNe0NeeSesLesL000e00e00c0Nt0";
        int[] given = new int[3];
        for (int k = 0; k < 3; k++) {
            char form = kind >= 0 && kind <= 21 ? forms.charAt(kind * 3 + k) : 'e';
            given[k] = form == '0' ? any(1) : form == 'N' ? any(16) : form == 'L' ? any(10)
                : form == '#' ? any(1000) : (form == 'A' || form == 'S') && pick(2) == 0 ? -1
                : anyPart();
        }
        twin.node(kind, given[0], given[1], given[2]);
    }

    /** What is refused of those that only ask; what they answer, askAll() compares. */
    private void ask() {
        int p = any(twin.model.procs.size());
        int name = any(16);
        int what = any(12);
        boolean isP = p >= 0 && p < twin.model.procs.size();
        boolean isName = name >= 0 && name <= 15;
        if (!isP || !isName || what < 0 || what > 4) {
            twin.take("ofName(" + p + ", " + name + ", " + what + ")", isP ? 2 : 1, 0,
                () -> twin.link.ofName(p, name, what));
        }
        if (!isP || what < 0 || what > 7) {
            twin.take("ofProcedure(" + p + ", " + what + ")", isP ? 2 : 1, 0,
                () -> twin.link.ofProcedure(p, what));
        }
        if (!isP || !isName) {
            twin.take("hiddenBy(" + p + ", " + name + ")", isP ? 2 : 1, 0,
                () -> twin.link.hiddenBy(p, name));
        }
        int n = anyPart();
        boolean isN = n >= 0 && n < twin.model.nodes.size();
        if (!isN || what < 0 || what > 7) {
            twin.take("ofNode(" + n + ", " + what + ")", isN ? 2 : 1, 0,
                () -> twin.link.ofNode(n, what));
        }
        if (what < 0 || what > 10) {
            twin.take("ofRun(" + what + ")", 2, 0, () -> twin.link.ofRun(what));
            twin.take("many(" + what + ")", 2, 0, () -> twin.link.many(what));
        }
    }
}
