import java.util.Arrays;

/** A compiler of a small language of nested procedures, and the machine that runs its code. */
public final class StaticLink {
    private static final int NONE = -1;

    private static final int NAMES = 16;
    private static final int LABELS = 10;
    private static final int MOST_PROCEDURES = 10;
    private static final int MOST_PARAMETERS = 4;
    private static final int MOST_VARIABLES = 6;
    private static final int MOST_PLACES = 10;
    private static final int MOST_NODES = 110;
    private static final int MOST_STEPS = 3000;
    private static final int MOST_DEPTH = 40;
    private static final int KEPT_NUMBERS = 50;

    // What a NAME can be, as ofName() tells it.
    private static final int VALUE = 0;
    private static final int REF = 1;
    private static final int BY_NAME = 2;
    private static final int COPY = 3;
    private static final int ARRAY = 4;
    private static final int PROC = 5;
    private static final int NUMBER_VARIABLE = 6;
    private static final int ARRAY_VARIABLE = 7;
    private static final int PROC_VARIABLE = 8;
    private static final int CONSTANT = 9;
    private static final int PROCEDURE = 10;

    // The kinds of VARIABLES start here in the list above.
    private static final int FIRST_VARIABLE = NUMBER_VARIABLE;

    // The kinds of NODES.
    private static final int NUMBER = 0;
    private static final int USE = 1;
    private static final int AT = 2;
    private static final int ADD = 3;
    private static final int SUB = 4;
    private static final int MUL = 5;
    private static final int DIV = 6;
    private static final int LESS = 7;
    private static final int CALL = 8;
    private static final int ARGUMENT = 9;
    private static final int TAKEN = 10;
    private static final int ARRAY_NAME = 11;
    private static final int SEQ = 12;
    private static final int SET = 13;
    private static final int STORE = 14;
    private static final int IF = 15;
    private static final int LOOP = 16;
    private static final int BREAK = 17;
    private static final int RETURN = 18;
    private static final int PRINT = 19;
    private static final int DO = 20;
    private static final int KEEP = 21;

    // The PASSES.
    private static final int FOLD_PASS = 1;
    private static final int TAIL_PASS = 2;
    private static final int SLOTS_PASS = 4;
    private static final int ALL_PASSES = 7;

    // The TRAPS.
    private static final int BY_ZERO = 1;
    private static final int NO_SUCH_PLACE = 2;
    private static final int EMPTY_PROC = 3;
    private static final int WRONG_COUNT = 4;
    private static final int NOT_GOING_ON = 5;
    private static final int TOO_MANY_STEPS = 6;
    private static final int TOO_DEEP = 7;

    private final Declarations declarations = new Declarations();
    private final Nodes nodes = new Nodes();
    private final Meaning meaning = new Meaning(declarations, nodes);
    private final Faults faults = new Faults(declarations, nodes, meaning);
    private final Code written = new Code(declarations, nodes, meaning);
    private final Code plain = new Code(declarations, nodes, meaning);
    private final Machine machine = new Machine(declarations, nodes, meaning, plain);
    private final Outcome latest = new Outcome();
    private final Outcome trial = new Outcome();
    private boolean stale = true;
    private int passes = ALL_PASSES;
    private int most = 1000;
    private int deep = 20;
    private int runs = 0;

    /** A program of MAIN, without a BODY. */
    public StaticLink() {
    }

    // ---- procedures and names

    public int procedure(int parent, int name)
            throws IndexOutOfBoundsException, IllegalArgumentException, IllegalStateException {
        needProcedure(parent);
        needArgument(isName(name));
        needState(declarations.count < MOST_PROCEDURES && !declarations.declares(parent, name));
        stale = true;
        return declarations.addProcedure(parent, name);
    }

    public int parameter(int procedure, int name, int mode)
            throws IndexOutOfBoundsException, IllegalArgumentException, IllegalStateException {
        needProcedure(procedure);
        needArgument(isName(name) && mode >= VALUE && mode <= PROC);
        needState(procedure != 0 && declarations.takesParameter(procedure, name));
        stale = true;
        return declarations.addParameter(procedure, name, mode);
    }

    public int variable(int procedure, int name, int kind, int size)
            throws IndexOutOfBoundsException, IllegalArgumentException, IllegalStateException {
        needProcedure(procedure);
        needArgument(isName(name) && isSizeOf(kind, size));
        needState(declarations.takesVariable(procedure, name));
        stale = true;
        return declarations.addVariable(procedure, name, kind + FIRST_VARIABLE, size);
    }

    public int ofName(int procedure, int name, int what)
            throws IndexOutOfBoundsException, IllegalArgumentException {
        needProcedure(procedure);
        needArgument(isName(name) && what >= 0 && what <= 4);
        int owner = declarations.declarer(procedure, name);
        if (owner == NONE) {
            return NONE;
        }
        int entry = owner * NAMES + name;
        switch (what) {
            case 0: return owner;
            case 1: return declarations.hopsTo(owner, procedure);
            case 2: return declarations.place[entry];
            case 3: return declarations.what[entry];
            default: return declarations.detail[entry];
        }
    }

    public int ofProcedure(int procedure, int what)
            throws IndexOutOfBoundsException, IllegalArgumentException {
        needProcedure(procedure);
        needArgument(what >= 0 && what <= 7);
        refresh();
        switch (what) {
            case 0: return declarations.parent[procedure];
            case 1: return declarations.called[procedure];
            case 2: return declarations.parameters[procedure];
            case 3: return declarations.variables[procedure];
            case 4: return meaning.escapes[procedure];
            case 5: return meaning.handedOn[procedure] ? 1 : 0;
            case 6: return declarations.bodyNode[procedure];
            default: return codeLength(procedure);
        }
    }

    // ---- nodes

    public int node(int kind, int a, int b, int c)
            throws IllegalArgumentException, IllegalStateException {
        needArgument(nodes.suits(kind, a, b, c));
        needState(nodes.count < MOST_NODES);
        stale = true;
        return nodes.add(kind, a, b, c);
    }

    public int body(int procedure, int node)
            throws IndexOutOfBoundsException, IllegalArgumentException, IllegalStateException {
        needProcedure(procedure);
        needNode(node);
        needArgument(nodes.isStatement(node));
        needState(nodes.isFree(node));
        stale = true;
        int before = declarations.bodyNode[procedure];
        if (before != NONE) {
            nodes.bodyOf[before] = NONE;
        }
        declarations.bodyNode[procedure] = node;
        nodes.bodyOf[node] = procedure;
        return before;
    }

    public int ofNode(int node, int what)
            throws IndexOutOfBoundsException, IllegalArgumentException {
        needNode(node);
        needArgument(what >= 0 && what <= 7);
        refresh();
        switch (what) {
            case 0: return nodes.kind[node];
            case 1: return nodes.a[node];
            case 2: return nodes.b[node];
            case 3: return nodes.c[node];
            case 4: return meaning.in[node];
            case 5: return meaning.folded[node] ? 1 : 0;
            case 6: return meaning.tail[node] ? 1 : 0;
            default: return meaning.hops[node];
        }
    }

    public int fault(int k, int what)
            throws IndexOutOfBoundsException, IllegalArgumentException {
        refresh();
        needPlace(k >= 0 && k < faults.count);
        needArgument(what >= 0 && what <= 2);
        switch (what) {
            case 0: return faults.which[k];
            case 1: return faults.procedureOf[k];
            default: return faults.nodeOf[k];
        }
    }

    // ---- code

    public int passes(int passes) throws IllegalArgumentException {
        needArgument(isPasses(passes));
        int before = this.passes;
        this.passes = passes;
        return before;
    }

    public int code(int procedure, int k, int what)
            throws IndexOutOfBoundsException, IllegalArgumentException {
        needProcedure(procedure);
        refresh();
        needPlace(k >= 0 && k < codeLength(procedure));
        needArgument(what >= 0 && what <= 3);
        int at = written.from[procedure] + k;
        switch (what) {
            case 0: return written.op[at];
            case 1: return written.x[at];
            case 2: return written.y[at];
            default: return written.begins[at];
        }
    }

    // ---- runs

    public int limits(int most, int deep) throws IllegalArgumentException {
        needArgument(areLimits(most, deep));
        int before = this.most;
        this.most = most;
        this.deep = deep;
        return before;
    }

    public int run() throws IllegalStateException {
        refresh();
        needState(faults.count == 0);
        machine.execute(passes, most, deep, latest);
        runs++;
        return latest.trap;
    }

    public int ofRun(int what) throws IllegalArgumentException {
        needArgument(what >= 0 && what <= 10);
        return what == 10 ? runs : latest.answer(what);
    }

    public int printed(int k, int what)
            throws IndexOutOfBoundsException, IllegalArgumentException {
        needPlace(k >= 0 && k < latest.kept());
        needArgument(what >= 0 && what <= 2);
        switch (what) {
            case 0: return latest.number[k];
            case 1: return latest.stepsBy[k];
            default: return latest.printNode[k];
        }
    }

    public double meanPrinted() {
        if (latest.numbers == 0) {
            return 0.0;
        }
        return (double) latest.sum / (double) latest.numbers;
    }

    public int many(int what) throws IllegalArgumentException {
        needArgument(what >= 0 && what <= 10);
        refresh();
        switch (what) {
            case 0: return declarations.count;
            case 1: return nodes.count;
            case 2: return meaning.nodesInNone;
            case 3: return faults.count;
            case 4: return meaning.tails;
            case 5: return meaning.nodesFolded;
            case 6: return meaning.placesEscaping;
            case 7: return passes;
            case 8: return most;
            case 9: return deep;
            default: return wholeCodeLength(passes);
        }
    }

    // ---- what would be (nothing is changed)

    public int wouldRun(int most, int deep, int what)
            throws IllegalArgumentException, IllegalStateException {
        needArgument(areLimits(most, deep) && what >= 0 && what <= 9);
        refresh();
        needState(faults.count == 0);
        machine.execute(passes, most, deep, trial);
        return trial.answer(what);
    }

    public int with(int passes, int what)
            throws IllegalArgumentException, IllegalStateException {
        needArgument(isPasses(passes) && what >= 0 && what <= 2);
        refresh();
        needState(faults.count == 0);
        if (what == 0) {
            return wholeCodeLength(passes);
        }
        machine.execute(passes, most, deep, trial);
        return what == 1 ? trial.cells : trial.mostLive;
    }

    public int hiddenBy(int procedure, int name)
            throws IndexOutOfBoundsException, IllegalArgumentException {
        needProcedure(procedure);
        needArgument(isName(name));
        refresh();
        return declarations.declares(procedure, name) ? 0 : meaning.reaching(procedure, name);
    }

    // In one piece, so that the calls below it do not go too deep; and one run serves all that
    // is asked of it, for twelve runs a digest would be dear.
    public long digest() {
        refresh();
        long d = 58126;
        for (int what = 0; what <= 10; what++) {
            d = d * 31 + many(what);
        }
        for (int p = 0; p < declarations.count; p++) {
            for (int what = 0; what <= 7; what++) {
                d = d * 31 + ofProcedure(p, what);
            }
            for (int name = 0; name <= 7; name++) {
                d = d * 31 + hiddenBy(p, name);
            }
            int length = codeLength(p);
            for (int k = 0; k < length * 4; k++) {
                d = d * 31 + code(p, k / 4, k % 4);
            }
        }
        for (int k = 0; k < nodes.count * 4; k++) {
            d = d * 31 + ofNode(k / 4, 4 + k % 4);
        }
        for (int k = 0; k < faults.count * 3; k++) {
            d = d * 31 + fault(k / 3, k % 3);
        }
        for (int what = 0; what <= 10; what++) {
            d = d * 31 + ofRun(what);
        }
        for (int k = 0; k < latest.kept() * 3; k++) {
            d = d * 31 + printed(k / 3, k % 3);
        }
        if (faults.count != 0) {
            return d;
        }
        d = d * 31 + wholeCodeLength(0);
        machine.execute(0, most, deep, trial);
        d = d * 31 + trial.cells;
        d = d * 31 + trial.mostLive;
        machine.execute(passes, 200, 10, trial);
        for (int what = 0; what <= 9; what++) {
            d = d * 31 + trial.answer(what);
        }
        return d;
    }

    private void refresh() {
        if (stale) {
            meaning.find();
            faults.find();
            written.forget();
            plain.forget();
            stale = false;
        }
    }

    private int codeLength(int procedure) {
        if (faults.count != 0) {
            return 0;
        }
        written.layOut(passes);
        return written.size[procedure];
    }

    private int wholeCodeLength(int passes) {
        if (faults.count != 0) {
            return 0;
        }
        written.layOut(passes);
        return written.total;
    }

    private void needProcedure(int procedure) {
        if (!declarations.has(procedure)) {
            throw new IndexOutOfBoundsException("there is no such PROCEDURE");
        }
    }

    private void needNode(int node) {
        if (!nodes.has(node)) {
            throw new IndexOutOfBoundsException("there is no such NODE");
        }
    }

    private static void needPlace(boolean isThere) {
        if (!isThere) {
            throw new IndexOutOfBoundsException("there is no such one");
        }
    }

    private static void needArgument(boolean isRight) {
        if (!isRight) {
            throw new IllegalArgumentException("an argument is out of its range");
        }
    }

    private static void needState(boolean isRight) {
        if (!isRight) {
            throw new IllegalStateException("the program does not allow this now");
        }
    }

    private static boolean isName(int name) {
        return name >= 0 && name < NAMES;
    }

    private static boolean isPasses(int passes) {
        return passes >= 0 && passes <= ALL_PASSES;
    }

    private static boolean areLimits(int most, int deep) {
        return most >= 1 && most <= MOST_STEPS && deep >= 1 && deep <= MOST_DEPTH;
    }

    private static boolean isSizeOf(int kind, int size) {
        switch (kind + FIRST_VARIABLE) {
            case NUMBER_VARIABLE:
            case PROC_VARIABLE:
                return size == 0;
            case ARRAY_VARIABLE:
                return size >= 1 && size <= 8;
            case CONSTANT:
                return size >= -99 && size <= 99;
            default:
                return false;
        }
    }

    /** The PROCEDURES, and what they declare. */
    private static final class Declarations {
        int count = 1;
        final int[] parent = new int[MOST_PROCEDURES];
        final int[] called = new int[MOST_PROCEDURES];
        final int[] parameters = new int[MOST_PROCEDURES];
        final int[] variables = new int[MOST_PROCEDURES];
        final int[] places = new int[MOST_PROCEDURES];
        final int[] bodyNode = new int[MOST_PROCEDURES];
        // By PROCEDURE and NAME: what it is there (NONE, if not declared), and the rest of it.
        final int[] what = new int[MOST_PROCEDURES * NAMES];
        final int[] place = new int[MOST_PROCEDURES * NAMES];
        final int[] detail = new int[MOST_PROCEDURES * NAMES];
        // By PROCEDURE and PLACE: what is there, and its size.
        final int[] whatAt = new int[MOST_PROCEDURES * MOST_PLACES];
        final int[] sizeAt = new int[MOST_PROCEDURES * MOST_PLACES];

        Declarations() {
            parent[0] = NONE;
            called[0] = NONE;
            Arrays.fill(bodyNode, NONE);
            Arrays.fill(what, NONE);
        }

        boolean has(int p) {
            return p >= 0 && p < count;
        }

        boolean declares(int p, int name) {
            return what[p * NAMES + name] != NONE;
        }

        boolean takesParameter(int p, int name) {
            return parameters[p] < MOST_PARAMETERS && variables[p] == 0 && !declares(p, name);
        }

        boolean takesVariable(int p, int name) {
            return variables[p] < MOST_VARIABLES && !declares(p, name);
        }

        int addProcedure(int outer, int name) {
            int p = count;
            count++;
            parent[p] = outer;
            called[p] = name;
            declare(outer, name, PROCEDURE, p);
            return p;
        }

        int addParameter(int p, int name, int mode) {
            parameters[p]++;
            return declarePlace(p, name, mode, 0);
        }

        int addVariable(int p, int name, int is, int size) {
            variables[p]++;
            if (is == CONSTANT) {
                declare(p, name, is, size);
                return NONE;
            }
            return declarePlace(p, name, is, size);
        }

        private void declare(int p, int name, int is, int more) {
            int entry = p * NAMES + name;
            what[entry] = is;
            place[entry] = NONE;
            detail[entry] = more;
        }

        private int declarePlace(int p, int name, int is, int size) {
            int taken = places[p];
            places[p]++;
            declare(p, name, is, size);
            place[p * NAMES + name] = taken;
            whatAt[p * MOST_PLACES + taken] = is;
            sizeAt[p * MOST_PLACES + taken] = size;
            return taken;
        }

        /** The PROCEDURE that declares what the NAME is in p; NONE, if it is unbound. */
        int declarer(int p, int name) {
            int at = p;
            for (int hop = 0; hop < MOST_PROCEDURES && at != NONE; hop++) {
                if (declares(at, name)) {
                    return at;
                }
                at = parent[at];
            }
            return NONE;
        }

        int hopsTo(int outer, int p) {
            int at = p;
            int hops = 0;
            for (; hops < MOST_PROCEDURES && at != outer && at != NONE; hops++) {
                at = parent[at];
            }
            return hops;
        }

        boolean isInside(int p, int outer) {
            int at = parent[p];
            for (int hop = 0; hop < MOST_PROCEDURES && at != NONE; hop++) {
                if (at == outer) {
                    return true;
                }
                at = parent[at];
            }
            return false;
        }

        boolean takesValuesAlone(int p) {
            for (int k = 0; k < parameters[p]; k++) {
                if (whatAt[p * MOST_PLACES + k] != VALUE) {
                    return false;
                }
            }
            return true;
        }
    }

    /** The NODES, and of what each one is a part. */
    private static final class Nodes {
        // What a, b or c of a NODE is. From EXPRESSION on it is another NODE.
        private static final int NOTHING = 0;
        private static final int A_NUMBER = 1;
        private static final int A_NAME = 2;
        private static final int A_LABEL = 3;
        private static final int EXPRESSION = 4;
        private static final int STATEMENT = 5;
        private static final int STATEMENT_OR_NONE = 6;
        private static final int ARGUMENT_OR_NONE = 7;
        private static final int HANDED = 8;
        private static final int A_CALL = 9;
        private static final int A_TAKEN = 10;

        // By kind of NODE.
        private static final int[] ROLE_A =
            {1, 2, 2, 0, 0, 0, 0, 0, 2, 0, 2, 2, 0, 2, 2, 6, 3, 3, 0, 0, 0, 2};
        private static final int[] ROLE_B =
            {0, 0, 4, 4, 4, 4, 4, 4, 7, 8, 0, 0, 5, 4, 4, 4, 4, 0, 4, 4, 9, 10};
        private static final int[] ROLE_C =
            {0, 0, 0, 4, 4, 4, 4, 4, 0, 7, 0, 0, 5, 0, 4, 5, 5, 0, 0, 0, 0, 0};

        int count = 0;
        final int[] kind = new int[MOST_NODES];
        final int[] a = new int[MOST_NODES];
        final int[] b = new int[MOST_NODES];
        final int[] c = new int[MOST_NODES];
        final int[] whole = new int[MOST_NODES];
        final int[] bodyOf = new int[MOST_NODES];

        boolean has(int n) {
            return n >= 0 && n < count;
        }

        boolean isFree(int n) {
            return whole[n] == NONE && bodyOf[n] == NONE;
        }

        boolean isExpression(int n) {
            return kind[n] <= CALL;
        }

        boolean isStatement(int n) {
            return kind[n] >= SEQ;
        }

        int argumentsOf(int call) {
            int many = 0;
            int at = b[call];
            for (; many < MOST_NODES && at != NONE; many++) {
                at = c[at];
            }
            return many;
        }

        boolean hasName(int n) {
            return ROLE_A[kind[n]] == A_NAME;
        }

        int partA(int n) {
            return ROLE_A[kind[n]] >= EXPRESSION ? a[n] : NONE;
        }

        int partB(int n) {
            return ROLE_B[kind[n]] >= EXPRESSION ? b[n] : NONE;
        }

        int partC(int n) {
            return ROLE_C[kind[n]] >= EXPRESSION ? c[n] : NONE;
        }

        boolean suits(int newKind, int newA, int newB, int newC) {
            if (newKind < NUMBER || newKind > KEEP) {
                return false;
            }
            return fills(ROLE_A[newKind], newA)
                && fills(ROLE_B[newKind], newB)
                && fills(ROLE_C[newKind], newC)
                && !isSamePart(ROLE_A[newKind], newA, ROLE_B[newKind], newB)
                && !isSamePart(ROLE_A[newKind], newA, ROLE_C[newKind], newC)
                && !isSamePart(ROLE_B[newKind], newB, ROLE_C[newKind], newC);
        }

        private boolean fills(int role, int v) {
            switch (role) {
                case NOTHING: return v == 0;
                case A_NUMBER: return v >= -999 && v <= 999;
                case A_NAME: return isName(v);
                case A_LABEL: return v >= 0 && v < LABELS;
                case STATEMENT_OR_NONE:
                case ARGUMENT_OR_NONE:
                    return v == NONE || isPartFor(role, v);
                default: return isPartFor(role, v);
            }
        }

        private boolean isPartFor(int role, int n) {
            if (!has(n) || !isFree(n)) {
                return false;
            }
            switch (role) {
                case EXPRESSION: return isExpression(n);
                case STATEMENT:
                case STATEMENT_OR_NONE: return isStatement(n);
                case ARGUMENT_OR_NONE: return kind[n] == ARGUMENT;
                case HANDED:
                    return isExpression(n) || kind[n] == ARRAY_NAME || kind[n] == TAKEN;
                case A_CALL: return kind[n] == CALL;
                default: return kind[n] == TAKEN;
            }
        }

        // What is no part at all may well be the same number as a part.
        private static boolean isSamePart(int role, int v, int otherRole, int other) {
            return role >= EXPRESSION && otherRole >= EXPRESSION && v == other && v != NONE;
        }

        int add(int newKind, int newA, int newB, int newC) {
            int n = count;
            count++;
            kind[n] = newKind;
            a[n] = newA;
            b[n] = newB;
            c[n] = newC;
            whole[n] = NONE;
            bodyOf[n] = NONE;
            claim(partA(n), n);
            claim(partB(n), n);
            claim(partC(n), n);
            return n;
        }

        private void claim(int part, int n) {
            if (part != NONE) {
                whole[part] = n;
            }
        }
    }

    /** What the NAMES and the NODES mean, as the program stands now. */
    private static final class Meaning {
        private final Declarations declarations;
        private final Nodes nodes;

        final int[] in = new int[MOST_NODES];
        // Of the NAME of a NODE: who declares it, its HOPS, what it is, and what tells it from
        // others there: its PLACE, the number of a PROCEDURE, or the value of a CONSTANT.
        final int[] owner = new int[MOST_NODES];
        final int[] hops = new int[MOST_NODES];
        final int[] is = new int[MOST_NODES];
        final int[] target = new int[MOST_NODES];
        final boolean[] folded = new boolean[MOST_NODES];
        final int[] worth = new int[MOST_NODES];
        final boolean[] tail = new boolean[MOST_NODES];
        // Of an ARGUMENT: the MODE in which it is handed on.
        final int[] mode = new int[MOST_NODES];
        // Of a BREAK: the HOPS to the PROCEDURE with its LOOP; NONE without such a one.
        final int[] leaves = new int[MOST_NODES];
        final int[] labels = new int[MOST_PROCEDURES];
        final boolean[] handedOn = new boolean[MOST_PROCEDURES];
        final int[] escapes = new int[MOST_PROCEDURES];
        int nodesInNone = 0;
        int nodesFolded = 0;
        int tails = 0;
        int placesEscaping = 0;

        Meaning(Declarations declarations, Nodes nodes) {
            this.declarations = declarations;
            this.nodes = nodes;
        }

        // What a line uses, the lines above it have found.
        void find() {
            findWhereNodesAre();
            for (int n = 0; n < nodes.count; n++) {
                bind(n);
                fold(n);
            }
            findHandedOn();
            findEscapes();
            findLabels();
            for (int n = 0; n < nodes.count; n++) {
                tail[n] = isTail(n);
                mode[n] = VALUE;
                leaves[n] = nodes.kind[n] == BREAK ? hopsToLoop(n) : NONE;
            }
            findModes();
            sumUp();
        }

        // A part has a smaller number than its whole: so the whole is known ahead of it.
        private void findWhereNodesAre() {
            for (int n = nodes.count - 1; n >= 0; n--) {
                if (nodes.bodyOf[n] != NONE) {
                    in[n] = nodes.bodyOf[n];
                } else {
                    in[n] = nodes.whole[n] == NONE ? NONE : in[nodes.whole[n]];
                }
            }
        }

        private void bind(int n) {
            boolean isNamed = in[n] != NONE && nodes.hasName(n);
            owner[n] = isNamed ? declarations.declarer(in[n], nodes.a[n]) : NONE;
            if (owner[n] == NONE) {
                hops[n] = NONE;
                is[n] = NONE;
                target[n] = NONE;
                return;
            }
            int entry = owner[n] * NAMES + nodes.a[n];
            hops[n] = declarations.hopsTo(owner[n], in[n]);
            is[n] = declarations.what[entry];
            target[n] = hasPlace(n) ? declarations.place[entry] : declarations.detail[entry];
        }

        private boolean hasPlace(int n) {
            return is[n] != NONE && is[n] != CONSTANT && is[n] != PROCEDURE;
        }

        private void fold(int n) {
            folded[n] = false;
            if (nodes.kind[n] == NUMBER) {
                worth[n] = nodes.a[n];
            } else if (isReckoned(nodes.kind[n]) && isKnown(nodes.b[n]) && isKnown(nodes.c[n])) {
                int left = worth[nodes.b[n]];
                int right = worth[nodes.c[n]];
                folded[n] = nodes.kind[n] != DIV || right != 0;
                worth[n] = reckon(nodes.kind[n], left, right);
            }
        }

        private boolean isKnown(int n) {
            return nodes.kind[n] == NUMBER || folded[n];
        }

        static boolean isReckoned(int kind) {
            return kind >= ADD && kind <= LESS;
        }

        /** What ADD to LESS give; 0 for a DIV by 0, which is looked at before. */
        static int reckon(int kind, int left, int right) {
            switch (kind) {
                case ADD: return left + right;
                case SUB: return left - right;
                case MUL: return left * right;
                case DIV: return right == 0 ? 0 : left / right;
                default: return left < right ? 1 : 0;
            }
        }

        private void findHandedOn() {
            Arrays.fill(escapes, 0);
            for (int p = 0; p < MOST_PROCEDURES; p++) {
                handedOn[p] = false;
            }
            for (int n = 0; n < nodes.count; n++) {
                if (nodes.kind[n] == TAKEN && is[n] == PROCEDURE) {
                    handedOn[target[n]] = true;
                }
            }
        }

        private void findEscapes() {
            for (int n = 0; n < nodes.count; n++) {
                if (hasPlace(n) && isOutliving(in[n], owner[n])) {
                    escapes[owner[n]] |= 1 << target[n];
                }
            }
        }

        /** Whether p, or one around it that is still INSIDE outer, is HANDED ON. */
        private boolean isOutliving(int p, int outer) {
            int at = p;
            for (int hop = 0; hop < MOST_PROCEDURES && at != outer && at != NONE; hop++) {
                if (handedOn[at]) {
                    return true;
                }
                at = declarations.parent[at];
            }
            return false;
        }

        private boolean isTail(int n) {
            int p = in[n];
            if (nodes.kind[n] != RETURN || p == NONE || p == 0 || escapes[p] != 0) {
                return false;
            }
            int called = nodes.b[n];
            return nodes.kind[called] == CALL && is[called] == PROCEDURE
                && declarations.takesValuesAlone(target[called])
                && !declarations.isInside(target[called], p);
        }

        private void findLabels() {
            Arrays.fill(labels, 0);
            for (int n = 0; n < nodes.count; n++) {
                if (nodes.kind[n] == LOOP && in[n] != NONE) {
                    labels[in[n]] |= 1 << nodes.a[n];
                }
            }
        }

        private int hopsToLoop(int n) {
            if (in[n] == NONE) {
                return NONE;
            }
            if (isInLoop(n)) {
                return 0;
            }
            int at = declarations.parent[in[n]];
            for (int hop = 1; hop < MOST_PROCEDURES && at != NONE; hop++) {
                if ((labels[at] >> nodes.a[n] & 1) == 1) {
                    return hop;
                }
                at = declarations.parent[at];
            }
            return NONE;
        }

        private boolean isInLoop(int n) {
            int at = nodes.whole[n];
            for (int up = 0; up < MOST_NODES && at != NONE; up++) {
                if (nodes.kind[at] == LOOP && nodes.a[at] == nodes.a[n]) {
                    return true;
                }
                at = nodes.whole[at];
            }
            return false;
        }

        private void findModes() {
            for (int n = 0; n < nodes.count; n++) {
                if (nodes.kind[n] != CALL || is[n] != PROCEDURE) {
                    continue;
                }
                int argument = nodes.b[n];
                int parameters = declarations.parameters[target[n]];
                for (int k = 0; k < parameters && argument != NONE; k++) {
                    mode[argument] = declarations.whatAt[target[n] * MOST_PLACES + k];
                    argument = nodes.c[argument];
                }
            }
        }

        private void sumUp() {
            nodesInNone = 0;
            nodesFolded = 0;
            tails = 0;
            placesEscaping = 0;
            for (int n = 0; n < nodes.count; n++) {
                if (in[n] == NONE) {
                    nodesInNone++;
                    continue;
                }
                nodesFolded += folded[n] ? 1 : 0;
                tails += tail[n] ? 1 : 0;
            }
            for (int p = 0; p < declarations.count; p++) {
                placesEscaping += Integer.bitCount(escapes[p]);
            }
        }

        /** The MODE in which n itself is handed on; VALUE, if it is not. */
        int modeOfPart(int n) {
            int whole = nodes.whole[n];
            return whole != NONE && nodes.kind[whole] == ARGUMENT ? mode[whole] : VALUE;
        }

        /** How many NODES look for the NAME in p, or would, if nothing further out had it. */
        int reaching(int p, int name) {
            int many = 0;
            for (int n = 0; n < nodes.count; n++) {
                boolean isThere = in[n] != NONE && nodes.hasName(n) && nodes.a[n] == name
                    && (in[n] == p || declarations.isInside(in[n], p));
                if (isThere && (owner[n] == NONE || declarations.isInside(p, owner[n]))) {
                    many++;
                }
            }
            return many;
        }
    }

    /** What is wrong with the program. */
    private static final class Faults {
        private static final int UNBOUND = 1;
        private static final int WRONG_KIND = 2;
        private static final int NOT_TO_BE_SET = 3;
        private static final int WRONG_ARGUMENTS = 4;
        private static final int UNSUITABLE = 5;
        private static final int NO_LOOP = 6;
        private static final int WITHOUT_BODY = 10;

        private final Declarations declarations;
        private final Nodes nodes;
        private final Meaning meaning;

        int count = 0;
        final int[] which = new int[MOST_NODES + MOST_PROCEDURES];
        final int[] procedureOf = new int[MOST_NODES + MOST_PROCEDURES];
        final int[] nodeOf = new int[MOST_NODES + MOST_PROCEDURES];
        private final int[] waiting = new int[MOST_NODES];
        private int waits = 0;

        Faults(Declarations declarations, Nodes nodes, Meaning meaning) {
            this.declarations = declarations;
            this.nodes = nodes;
            this.meaning = meaning;
        }

        // The parts wait in the order c, b, a, so that a comes first, with all that is in it.
        void find() {
            count = 0;
            for (int p = 0; p < declarations.count; p++) {
                if (declarations.bodyNode[p] == NONE) {
                    tell(WITHOUT_BODY, p, NONE);
                }
                waits = 0;
                await(declarations.bodyNode[p]);
                for (int turn = 0; turn < MOST_NODES && waits > 0; turn++) {
                    waits--;
                    int n = waiting[waits];
                    tell(faultOf(n), p, n);
                    await(nodes.partC(n));
                    await(nodes.partB(n));
                    await(nodes.partA(n));
                }
            }
        }

        private void await(int n) {
            if (n != NONE && waits < waiting.length) {
                waiting[waits] = n;
                waits++;
            }
        }

        private void tell(int fault, int p, int n) {
            if (fault != 0 && count < which.length) {
                which[count] = fault;
                procedureOf[count] = p;
                nodeOf[count] = n;
                count++;
            }
        }

        private int faultOf(int n) {
            int kind = nodes.kind[n];
            if (nodes.hasName(n)) {
                int is = meaning.is[n];
                if (is == NONE) {
                    return UNBOUND;
                }
                if (kind == SET && (is == CONSTANT || is == BY_NAME)) {
                    return NOT_TO_BE_SET;
                }
                if (!isAsItHasToBe(n)) {
                    return WRONG_KIND;
                }
            }
            if (kind == CALL) {
                return faultOfArguments(n);
            }
            return kind == BREAK && meaning.leaves[n] == NONE ? NO_LOOP : 0;
        }

        private boolean isAsItHasToBe(int n) {
            int is = meaning.is[n];
            switch (nodes.kind[n]) {
                case USE: return isToBeSet(is) || is == CONSTANT || is == BY_NAME;
                case SET: return isToBeSet(is);
                case CALL: return is == PROCEDURE || isProc(is);
                case TAKEN:
                    return isProc(is) || is == PROCEDURE
                        && declarations.takesValuesAlone(meaning.target[n]);
                case KEEP: return is == PROC_VARIABLE;
                default: return is == ARRAY_VARIABLE || is == COPY || is == ARRAY;
            }
        }

        private static boolean isToBeSet(int is) {
            return is == NUMBER_VARIABLE || is == VALUE || is == REF;
        }

        private static boolean isProc(int is) {
            return is == PROC || is == PROC_VARIABLE;
        }

        private int faultOfArguments(int call) {
            boolean isOfProcedure = meaning.is[call] == PROCEDURE;
            int given = nodes.argumentsOf(call);
            if (isOfProcedure && given != declarations.parameters[meaning.target[call]]) {
                return WRONG_ARGUMENTS;
            }
            int argument = nodes.b[call];
            for (int k = 0; k < given && argument != NONE; k++) {
                if (!suits(nodes.b[argument], isOfProcedure ? meaning.mode[argument] : VALUE)) {
                    return UNSUITABLE;
                }
                argument = nodes.c[argument];
            }
            return 0;
        }

        private boolean suits(int n, int mode) {
            switch (mode) {
                case REF:
                    return nodes.kind[n] == AT
                        || nodes.kind[n] == USE && isToBeSet(meaning.is[n]);
                case COPY:
                case ARRAY: return nodes.kind[n] == ARRAY_NAME;
                case PROC: return nodes.kind[n] == TAKEN;
                default: return nodes.isExpression(n);
            }
        }
    }

    /** The instructions of all PROCEDURES, one behind the other. */
    private static final class Code {
        static final int OP_PUSH = 1;
        static final int OP_GET = 2;
        static final int OP_PICK = 3;
        static final int OP_GO = 9;
        static final int OP_GOTO = 10;
        static final int OP_JUMPTO = 11;
        static final int OP_REF = 12;
        static final int OP_REFAT = 13;
        static final int OP_LATER = 14;
        static final int OP_BACK = 15;
        static final int OP_COPY = 16;
        static final int OP_ARRAY = 17;
        static final int OP_CLOSE = 18;
        static final int OP_PUT = 19;
        static final int OP_STOW = 20;
        static final int OP_UNLESS = 21;
        static final int OP_SKIP = 22;
        static final int OP_OPEN = 23;
        static final int OP_SHUT = 24;
        static final int OP_LEAVE = 25;
        static final int OP_PRINT = 26;
        static final int OP_DROP = 27;

        // No NODE has more instructions of its own than a LOOP, and each PROCEDURE has two.
        private static final int MOST_CODE = 4 * MOST_NODES + 2 * MOST_PROCEDURES;

        private final Declarations declarations;
        private final Nodes nodes;
        private final Meaning meaning;

        private int laidOut = NONE;
        int total = 0;
        final int[] from = new int[MOST_PROCEDURES];
        final int[] size = new int[MOST_PROCEDURES];
        final int[] op = new int[MOST_CODE];
        final int[] x = new int[MOST_CODE];
        final int[] y = new int[MOST_CODE];
        // Whose instruction it is; the outermost NODE that begins with it; how many do.
        final int[] node = new int[MOST_CODE];
        final int[] first = new int[MOST_CODE];
        final int[] begins = new int[MOST_CODE];
        // Of a NODE: its first instruction, how many it has, and the part that begins with it.
        final int[] start = new int[MOST_NODES];
        final int[] length = new int[MOST_NODES];
        final int[] next = new int[MOST_NODES];
        private final boolean[] swallowed = new boolean[MOST_NODES];

        Code(Declarations declarations, Nodes nodes, Meaning meaning) {
            this.declarations = declarations;
            this.nodes = nodes;
            this.meaning = meaning;
        }

        void forget() {
            laidOut = NONE;
        }

        /** Writes the CODE of a program without FAULTS. */
        void layOut(int passes) {
            if (laidOut == passes) {
                return;
            }
            laidOut = passes;
            for (int n = 0; n < nodes.count; n++) {
                length[n] = isPushed(n) ? 1 : lengthOfPart(nodes.partA(n))
                    + lengthOfPart(nodes.partB(n)) + lengthOfPart(nodes.partC(n)) + ownLength(n);
                swallowed[n] = false;
            }
            placeProcedures();
            for (int n = nodes.count - 1; n >= 0; n--) {
                if (meaning.in[n] != NONE) {
                    placeParts(n);
                }
            }
            for (int n = 0; n < nodes.count; n++) {
                if (meaning.in[n] != NONE) {
                    noteBegin(n);
                    write(n);
                }
            }
        }

        private boolean isPushed(int n) {
            return meaning.folded[n] && (laidOut & FOLD_PASS) != 0;
        }

        private boolean isJump(int n) {
            return meaning.tail[n] && (laidOut & TAIL_PASS) != 0;
        }

        private int lengthOfPart(int n) {
            return n == NONE ? 0 : length[n];
        }

        private int ownLength(int n) {
            switch (nodes.kind[n]) {
                case SEQ: return 0;
                case ARGUMENT: return meaning.mode[n] == BY_NAME ? 2 : 0;
                case IF: return nodes.a[n] == NONE ? 1 : 2;
                case LOOP: return 4;
                case RETURN: return isJump(n) ? 0 : 1;
                default: return 1;
            }
        }

        private void placeProcedures() {
            total = 0;
            for (int p = 0; p < declarations.count; p++) {
                int body = declarations.bodyNode[p];
                int bodyLength = lengthOfPart(body);
                from[p] = total;
                size[p] = bodyLength + 2;
                if (body != NONE) {
                    start[body] = total;
                }
                total += size[p];
                clear(from[p], total);
                put(total - 2, OP_PUSH, 0, 0, NONE);
                put(total - 1, OP_BACK, 0, 0, NONE);
            }
        }

        private void clear(int begin, int end) {
            for (int k = begin; k < end && k < MOST_CODE; k++) {
                first[k] = NONE;
                begins[k] = 0;
            }
        }

        // A whole has a greater number than its parts: so it has its place ahead of them.
        private void placeParts(int n) {
            int at = start[n];
            if (isPushed(n) || swallowed[n]) {
                swallow(nodes.partB(n), at);
                swallow(nodes.partC(n), at);
                return;
            }
            int ahead = 0;
            int between = 0;
            switch (nodes.kind[n]) {
                case LOOP:
                    ahead = 1;
                    between = 1;
                    break;
                case IF:
                    between = 1;
                    break;
                case ARGUMENT:
                    ahead = meaning.mode[n] == BY_NAME ? 1 : 0;
                    between = ahead;
                    break;
                default:
                    break;
            }
            int partB = nodes.partB(n);
            int startOfC = at + ahead + lengthOfPart(partB) + between;
            int partC = nodes.partC(n);
            place(partB, at + ahead);
            place(partC, startOfC);
            place(nodes.partA(n), startOfC + lengthOfPart(partC) + 1);
        }

        private void place(int n, int at) {
            if (n != NONE) {
                start[n] = at;
            }
        }

        private void swallow(int n, int at) {
            if (n != NONE) {
                start[n] = at;
                swallowed[n] = true;
            }
        }

        // Called with growing numbers: so the outermost NODE stands first in the chain.
        private void noteBegin(int n) {
            int at = start[n];
            if (at >= 0 && at < MOST_CODE) {
                next[n] = first[at];
                first[at] = n;
                begins[at]++;
            }
        }

        private void put(int at, int newOp, int newX, int newY, int n) {
            if (at >= 0 && at < MOST_CODE) {
                op[at] = newOp;
                x[at] = newX;
                y[at] = newY;
                node[at] = n;
            }
        }

        // With the HOPS of its NAME, and its PLACE or the number of the PROCEDURE.
        private void putNamed(int at, int newOp, int n) {
            put(at, newOp, meaning.hops[n], meaning.target[n], n);
        }

        private void write(int n) {
            int last = start[n] + length[n] - 1;
            if (swallowed[n]) {
                return;
            }
            if (isPushed(n)) {
                put(last, OP_PUSH, meaning.worth[n], 0, n);
                return;
            }
            int kind = nodes.kind[n];
            if (kind <= LESS) {
                writeExpression(n, kind, last);
            } else if (kind <= ARRAY_NAME) {
                writeCall(n, kind, last);
            } else {
                writeStatement(n, kind, last);
            }
        }

        private void writeExpression(int n, int kind, int last) {
            boolean isRef = meaning.modeOfPart(n) == REF;
            if (kind == NUMBER) {
                put(last, OP_PUSH, nodes.a[n], 0, n);
            } else if (kind == USE && meaning.is[n] == CONSTANT) {
                put(last, OP_PUSH, meaning.target[n], 0, n);
            } else if (kind == USE) {
                putNamed(last, isRef ? OP_REF : OP_GET, n);
            } else if (kind == AT) {
                putNamed(last, isRef ? OP_REFAT : OP_PICK, n);
            } else {
                put(last, kind + 1, 0, 0, n);
            }
        }

        private void writeCall(int n, int kind, int last) {
            boolean isOfProcedure = meaning.is[n] == PROCEDURE;
            if (kind == CALL && isOfProcedure) {
                int whole = nodes.whole[n];
                putNamed(last, whole != NONE && isJump(whole) ? OP_JUMPTO : OP_GO, n);
            } else if (kind == CALL) {
                putNamed(last, OP_GOTO, n);
            } else if (kind == TAKEN) {
                putNamed(last, isOfProcedure ? OP_CLOSE : OP_GET, n);
            } else if (kind == ARRAY_NAME) {
                putNamed(last, meaning.modeOfPart(n) == COPY ? OP_COPY : OP_ARRAY, n);
            } else if (meaning.mode[n] == BY_NAME) {
                int back = start[n] + 1 + length[nodes.b[n]];
                put(start[n], OP_LATER, back + 1 - from[meaning.in[n]], 0, n);
                put(back, OP_BACK, 0, 0, n);
            }
        }

        private void writeStatement(int n, int kind, int last) {
            switch (kind) {
                case SET:
                case KEEP:
                    putNamed(last, OP_PUT, n);
                    break;
                case STORE:
                    putNamed(last, OP_STOW, n);
                    break;
                case IF:
                    writeIf(n);
                    break;
                case LOOP:
                    writeLoop(n, last);
                    break;
                case BREAK:
                    put(last, OP_LEAVE, meaning.leaves[n], nodes.a[n], n);
                    break;
                case RETURN:
                    if (!isJump(n)) {
                        put(last, OP_BACK, 0, 0, n);
                    }
                    break;
                case PRINT:
                    put(last, OP_PRINT, 0, 0, n);
                    break;
                case DO:
                    put(last, OP_DROP, 0, 0, n);
                    break;
                default:
                    break;
            }
        }

        private void writeIf(int n) {
            int base = from[meaning.in[n]];
            int behindC = start[nodes.c[n]] + length[nodes.c[n]];
            boolean hasElse = nodes.a[n] != NONE;
            put(start[nodes.c[n]] - 1, OP_UNLESS, behindC + (hasElse ? 1 : 0) - base, 0, n);
            if (hasElse) {
                put(behindC, OP_SKIP, start[n] + length[n] - base, 0, n);
            }
        }

        private void writeLoop(int n, int last) {
            int base = from[meaning.in[n]];
            put(start[n], OP_OPEN, nodes.a[n], 0, n);
            put(start[nodes.c[n]] - 1, OP_UNLESS, last - base, 0, n);
            put(last - 1, OP_SKIP, start[nodes.b[n]] - base, 0, n);
            put(last, OP_SHUT, 0, 0, n);
        }
    }

    /** Rows of numbers, as many as are needed; what was made once serves all later runs. */
    private static final class Table {
        // Far more than the some 80,000 that the dearest run of MOST_STEPS can fill.
        private static final int MOST_NUMBERS = 1 << 20;

        private final int width;
        private int[] numbers;
        int count = 0;

        Table(int width) {
            this.width = width;
            this.numbers = new int[64 * width];
        }

        /** A new row, of zeros: its number; NONE, which at() and put() know, if none is left. */
        int add() {
            int end = (count + 1) * width;
            if (end > numbers.length && numbers.length <= MOST_NUMBERS / 2) {
                numbers = Arrays.copyOf(numbers, numbers.length * 2);
            }
            if (end > numbers.length) {
                return NONE;
            }
            for (int k = end - width; k < end; k++) {
                numbers[k] = 0;
            }
            count++;
            return count - 1;
        }

        int at(int row, int column) {
            return has(row, column) ? numbers[row * width + column] : NONE;
        }

        void put(int row, int column, int v) {
            if (has(row, column)) {
                numbers[row * width + column] = v;
            }
        }

        void cut(int left) {
            if (left >= 0 && left < count) {
                count = left;
            }
        }

        private boolean has(int row, int column) {
            return row >= 0 && row < count && column >= 0 && column < width;
        }
    }

    /** What a run did. */
    private static final class Outcome {
        int trap = 0;
        // Ahead of all runs the answers are 0, even those that are NONE later.
        int trapNode = 0;
        int trapProcedure = 0;
        int steps = 0;
        int numbers = 0;
        int calls = 0;
        int cells = 0;
        int mostLive = 0;
        int mostDepth = 0;
        int gave = 0;
        long sum = 0;
        final int[] number = new int[KEPT_NUMBERS];
        final int[] stepsBy = new int[KEPT_NUMBERS];
        final int[] printNode = new int[KEPT_NUMBERS];

        void start() {
            trap = 0;
            trapNode = NONE;
            trapProcedure = NONE;
            steps = 0;
            numbers = 0;
            calls = 0;
            cells = 0;
            mostLive = 0;
            mostDepth = 0;
            gave = 0;
            sum = 0;
        }

        void print(int v, int n) {
            if (numbers < KEPT_NUMBERS) {
                number[numbers] = v;
                stepsBy[numbers] = steps;
                printNode[numbers] = n;
            }
            numbers++;
            sum += v;
        }

        int kept() {
            return numbers < KEPT_NUMBERS ? numbers : KEPT_NUMBERS;
        }

        int answer(int what) {
            switch (what) {
                case 0: return trap;
                case 1: return trapNode;
                case 2: return trapProcedure;
                case 3: return steps;
                case 4: return numbers;
                case 5: return calls;
                case 6: return cells;
                case 7: return mostLive;
                case 8: return mostDepth;
                default: return gave;
            }
        }
    }

    /**
     * The machine. It runs the CODE without any PASSES, for these change nothing of what happens;
     * only CELLS and LIVE are counted by them.
     */
    private static final class Machine {
        // Far more instructions than belong to the most STEPS that there can be.
        private static final int MOST_TURNS = 1000000;
        private static final int EMPTY = NONE;

        // Columns of memory and operands: a number, an address in memory, the start of an array,
        // the PROCEDURE of a PROC, the code of what is BY NAME; and the size, or the FRAME, of it.
        private static final int V = 0;
        private static final int W = 1;
        // Columns of frames.
        private static final int RUNS = 0;
        private static final int LINK = 1;
        private static final int BASE = 2;
        // Columns of returns: what holds again, when one is back.
        private static final int BACK_PC = 0;
        private static final int BACK_FRAME = 1;
        private static final int BACK_LIVE = 2;
        private static final int BACK_DEPTH = 3;
        private static final int BACK_LOOPS = 4;
        // Columns of loops: those that are GOING ON.
        private static final int LOOP_FRAME = 0;
        private static final int LOOP_LABEL = 1;
        private static final int LOOP_RETURNS = 2;
        private static final int LOOP_OPERANDS = 3;
        private static final int LOOP_SHUT = 4;

        private final Declarations declarations;
        private final Nodes nodes;
        private final Meaning meaning;
        private final Code plain;
        private final Table memory = new Table(2);
        private final Table operands = new Table(2);
        private final Table frames = new Table(3);
        private final Table returns = new Table(5);
        private final Table loops = new Table(5);
        private Outcome told = new Outcome();
        private int passes = 0;
        private int deep = 0;
        private int pc = 0;
        private int frame = NONE;
        private int live = 0;
        private int depth = 0;
        private boolean isOver = true;

        Machine(Declarations declarations, Nodes nodes, Meaning meaning, Code plain) {
            this.declarations = declarations;
            this.nodes = nodes;
            this.meaning = meaning;
            this.plain = plain;
        }

        /** Runs a program without FAULTS. */
        void execute(int passes, int most, int deep, Outcome outcome) {
            plain.layOut(0);
            clear();
            this.passes = passes;
            this.deep = deep;
            told = outcome;
            told.start();
            keepReturn(NONE, live);
            call(0, NONE);
            for (int turn = 0; turn < MOST_TURNS && !isOver; turn++) {
                int at = pc;
                if (at < 0 || at >= plain.total) {
                    isOver = true;
                } else if (begin(at, most)) {
                    pc = at + 1;
                    perform(at, plain.op[at]);
                }
            }
        }

        private void clear() {
            memory.cut(0);
            operands.cut(0);
            frames.cut(0);
            returns.cut(0);
            loops.cut(0);
            frame = NONE;
            live = 0;
            depth = 0;
            isOver = false;
        }

        /** Counts the NODES that begin with the instruction, from the outermost on. */
        private boolean begin(int at, int most) {
            int n = plain.first[at];
            for (int k = 0; k < MOST_NODES && n != NONE; k++) {
                if (told.steps >= most) {
                    trap(TOO_MANY_STEPS, n);
                    return false;
                }
                told.steps++;
                n = plain.next[n];
            }
            return true;
        }

        private void trap(int which, int n) {
            told.trap = which;
            told.trapNode = n;
            told.trapProcedure = meaning.in[n];
            isOver = true;
        }

        private void perform(int at, int op) {
            int x = plain.x[at];
            switch (op) {
                case Code.OP_PUSH: push(x, 0); break;
                case Code.OP_GET: get(cellOf(at), at); break;
                case Code.OP_PICK: pick(cellOf(at), at, false); break;
                case Code.OP_GO: go(at); break;
                case Code.OP_GOTO: goByProc(cellOf(at), at); break;
                case Code.OP_REF: refer(cellOf(at), at); break;
                case Code.OP_REFAT: pick(cellOf(at), at, true); break;
                case Code.OP_LATER: later(at); break;
                case Code.OP_BACK: goBack(); break;
                case Code.OP_COPY: copy(cellOf(at)); break;
                case Code.OP_ARRAY: pushCell(cellOf(at)); break;
                case Code.OP_CLOSE: push(plain.y[at], frameAt(x)); break;
                case Code.OP_PUT: put(cellOf(at), at); break;
                case Code.OP_STOW: stow(cellOf(at), at); break;
                case Code.OP_UNLESS: skip(pop() == 0, x); break;
                case Code.OP_SKIP: skip(true, x); break;
                case Code.OP_OPEN: open(at); break;
                case Code.OP_SHUT: loops.cut(loops.count - 1); break;
                case Code.OP_LEAVE: leave(at); break;
                case Code.OP_PRINT: told.print(pop(), plain.node[at]); break;
                case Code.OP_DROP: pop(); break;
                default: reckon(at, op); break;
            }
        }

        private void push(int v, int w) {
            int row = operands.add();
            operands.put(row, V, v);
            operands.put(row, W, w);
        }

        private void pushCell(int cell) {
            push(memory.at(cell, V), memory.at(cell, W));
        }

        private int pop() {
            int v = operands.at(operands.count - 1, V);
            operands.cut(operands.count - 1);
            return v;
        }

        private int frameAt(int hops) {
            int at = frame;
            for (int hop = 0; hop < hops; hop++) {
                at = frames.at(at, LINK);
            }
            return at;
        }

        private int cellOf(int at) {
            return frames.at(frameAt(plain.x[at]), BASE) + plain.y[at];
        }

        private void reckon(int at, int op) {
            int right = pop();
            int left = pop();
            if (op - 1 == DIV && right == 0) {
                trap(BY_ZERO, plain.node[at]);
            } else {
                push(Meaning.reckon(op - 1, left, right), 0);
            }
        }

        private void get(int cell, int at) {
            int is = meaning.is[plain.node[at]];
            if (is == REF) {
                push(memory.at(memory.at(cell, V), V), 0);
            } else if (is == BY_NAME) {
                keepReturn(pc, live);
                frame = memory.at(cell, W);
                pc = memory.at(cell, V);
            } else {
                pushCell(cell);
            }
        }

        private void refer(int cell, int at) {
            boolean isRef = meaning.is[plain.node[at]] == REF;
            push(isRef ? memory.at(cell, V) : cell, 0);
        }

        private void pick(int cell, int at, boolean isRef) {
            int k = pop();
            int address = memory.at(cell, V) + k;
            if (k < 0 || k >= memory.at(cell, W)) {
                trap(NO_SUCH_PLACE, plain.node[at]);
            } else {
                push(isRef ? address : memory.at(address, V), 0);
            }
        }

        private void stow(int cell, int at) {
            int v = pop();
            int k = pop();
            if (k < 0 || k >= memory.at(cell, W)) {
                trap(NO_SUCH_PLACE, plain.node[at]);
            } else {
                memory.put(memory.at(cell, V) + k, V, v);
            }
        }

        private void put(int cell, int at) {
            boolean isRef = meaning.is[plain.node[at]] == REF;
            int to = isRef ? memory.at(cell, V) : cell;
            memory.put(to, W, operands.at(operands.count - 1, W));
            memory.put(to, V, pop());
        }

        private void copy(int cell) {
            int old = memory.at(cell, V);
            int size = memory.at(cell, W);
            int copied = memory.count;
            for (int k = 0; k < size; k++) {
                memory.put(memory.add(), V, memory.at(old + k, V));
            }
            push(copied, size);
        }

        private void later(int at) {
            push(pc, frame);
            skip(true, plain.x[at]);
        }

        private void skip(boolean isDue, int to) {
            int p = frames.at(frame, RUNS);
            if (isDue && declarations.has(p)) {
                pc = plain.from[p] + to;
            }
        }

        private void open(int at) {
            int n = plain.node[at];
            int row = loops.add();
            loops.put(row, LOOP_FRAME, frame);
            loops.put(row, LOOP_LABEL, plain.x[at]);
            loops.put(row, LOOP_RETURNS, returns.count);
            loops.put(row, LOOP_OPERANDS, operands.count);
            loops.put(row, LOOP_SHUT, plain.start[n] + plain.length[n] - 1);
        }

        private void leave(int at) {
            int home = frameAt(plain.x[at]);
            int row = loops.count - 1;
            while (row >= 0 && !isLoopOf(row, home, plain.y[at])) {
                row--;
            }
            if (row < 0) {
                trap(NOT_GOING_ON, plain.node[at]);
                return;
            }
            int outer = loops.at(row, LOOP_RETURNS);
            for (int k = returns.count; k > outer; k--) {
                goBack();
            }
            operands.cut(loops.at(row, LOOP_OPERANDS));
            loops.cut(row + 1);
            pc = loops.at(row, LOOP_SHUT);
        }

        private boolean isLoopOf(int row, int home, int label) {
            return loops.at(row, LOOP_FRAME) == home && loops.at(row, LOOP_LABEL) == label;
        }

        // A TAIL ends its FRAME here, and with it its LOOPS, even where LIVE does not tell it.
        private void go(int at) {
            int n = plain.node[at];
            if (depth >= deep) {
                trap(TOO_DEEP, n);
                return;
            }
            int link = frameAt(plain.x[at]);
            if (nodes.whole[n] != NONE && meaning.tail[nodes.whole[n]]) {
                loops.cut(returns.at(returns.count - 1, BACK_LOOPS));
                keepReturn(pc, (passes & TAIL_PASS) != 0 ? live - 1 : live);
            } else {
                keepReturn(pc, live);
            }
            call(plain.y[at], link);
        }

        private void goByProc(int cell, int at) {
            int n = plain.node[at];
            int p = memory.at(cell, V);
            if (p == EMPTY || !declarations.has(p)) {
                trap(EMPTY_PROC, n);
            } else if (nodes.argumentsOf(n) != declarations.parameters[p]) {
                trap(WRONG_COUNT, n);
            } else if (depth >= deep) {
                trap(TOO_DEEP, n);
            } else {
                keepReturn(pc, live);
                call(p, memory.at(cell, W));
            }
        }

        private void keepReturn(int backTo, int liveThen) {
            int row = returns.add();
            returns.put(row, BACK_PC, backTo);
            returns.put(row, BACK_FRAME, frame);
            returns.put(row, BACK_LIVE, liveThen);
            returns.put(row, BACK_DEPTH, depth);
            returns.put(row, BACK_LOOPS, loops.count);
        }

        private void goBack() {
            int row = returns.count - 1;
            pc = returns.at(row, BACK_PC);
            frame = returns.at(row, BACK_FRAME);
            live = returns.at(row, BACK_LIVE);
            depth = returns.at(row, BACK_DEPTH);
            loops.cut(returns.at(row, BACK_LOOPS));
            returns.cut(row);
            if (row == 0) {
                told.gave = pop();
                isOver = true;
            }
        }

        /** Begins a FRAME, behind keepReturn(); the newest operands are its ARGUMENTS. */
        private void call(int p, int link) {
            depth++;
            live = returns.at(returns.count - 1, BACK_LIVE) + 1;
            told.calls++;
            told.cells += (passes & SLOTS_PASS) != 0
                ? Integer.bitCount(meaning.escapes[p]) : declarations.places[p];
            told.mostLive = Math.max(told.mostLive, live);
            told.mostDepth = Math.max(told.mostDepth, depth);
            frame = frames.add();
            frames.put(frame, RUNS, p);
            frames.put(frame, LINK, link);
            frames.put(frame, BASE, memory.count);
            layPlaces(p);
            pc = plain.from[p];
        }

        private void layPlaces(int p) {
            int base = memory.count;
            int places = declarations.places[p];
            int parameters = declarations.parameters[p];
            int firstArgument = operands.count - parameters;
            int elements = base + places;
            for (int k = 0; k < places; k++) {
                int cell = memory.add();
                int is = declarations.whatAt[p * MOST_PLACES + k];
                if (k < parameters) {
                    memory.put(cell, V, operands.at(firstArgument + k, V));
                    memory.put(cell, W, operands.at(firstArgument + k, W));
                } else if (is == ARRAY_VARIABLE) {
                    int size = declarations.sizeAt[p * MOST_PLACES + k];
                    memory.put(cell, V, elements);
                    memory.put(cell, W, size);
                    elements += size;
                } else if (is == PROC_VARIABLE) {
                    memory.put(cell, V, EMPTY);
                }
            }
            operands.cut(firstArgument);
            for (int k = memory.count; k < elements; k++) {
                memory.add();
            }
        }
    }
}
