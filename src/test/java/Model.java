import java.util.ArrayList;
import java.util.HashMap;
import java.util.List;
import java.util.Map;

/**
 * The same program read once more from the document, in another manner: trees and recursion,
 * objects for frames, Java's exceptions for BREAK, RETURN and TRAPS. It looks at nothing that is
 * handed to it: only what StaticLink has taken may be told to it.
 */
final class Model {
    static final int NONE = -1;

    /** Something with a NAME: what, as ofName() tells it. */
    static final class Thing {
        int owner;
        int what;
        int place;
        int detail;
    }

    static final class Proc {
        int number;
        int parent;
        int name;
        int variables;
        int body = NONE;
        final Map<Integer, Thing> names = new HashMap<>();
        final List<Integer> modes = new ArrayList<>();
        final List<Thing> places = new ArrayList<>();
    }

    static final class Node {
        int kind;
        int a;
        int b;
        int c;
        int whole = NONE;
        int bodyOf = NONE;
    }

    final List<Proc> procs = new ArrayList<>();
    final List<Node> nodes = new ArrayList<>();

    Model() {
        Proc main = new Proc();
        main.parent = NONE;
        main.name = NONE;
        procs.add(main);
    }

    // ---- what is refused: 0 nothing, 1 IndexOutOfBounds, 2 IllegalArgument, 3 IllegalState

    private boolean hasProc(int p) {
        return p >= 0 && p < procs.size();
    }

    private static boolean isIn(int v, int least, int most) {
        return v >= least && v <= most;
    }

    int refusesProcedure(int parent, int name) {
        if (!hasProc(parent)) {
            return 1;
        }
        if (!isIn(name, 0, 15)) {
            return 2;
        }
        return procs.size() == 10 || procs.get(parent).names.containsKey(name) ? 3 : 0;
    }

    int refusesParameter(int p, int name, int mode) {
        if (!hasProc(p)) {
            return 1;
        }
        if (!isIn(name, 0, 15) || !isIn(mode, 0, 5)) {
            return 2;
        }
        Proc proc = procs.get(p);
        return p == 0 || proc.modes.size() == 4 || proc.names.containsKey(name)
            || proc.variables > 0 ? 3 : 0;
    }

    int refusesVariable(int p, int name, int kind, int size) {
        if (!hasProc(p)) {
            return 1;
        }
        int least = kind == 1 ? 1 : kind == 3 ? -99 : 0;
        int most = kind == 1 ? 8 : kind == 3 ? 99 : 0;
        if (!isIn(name, 0, 15) || !isIn(kind, 0, 3) || !isIn(size, least, most)) {
            return 2;
        }
        return procs.get(p).variables == 6 || procs.get(p).names.containsKey(name) ? 3 : 0;
    }

    int refusesBody(int p, int n) {
        if (!hasProc(p) || !isIn(n, 0, nodes.size() - 1)) {
            return 1;
        }
        if (nodes.get(n).kind < 12) {
            return 2;
        }
        return nodes.get(n).whole != NONE || nodes.get(n).bodyOf != NONE ? 3 : 0;
    }

    // By kind: what a, b and c have to be. 0 nothing, # a number, N a NAME, L a LABEL; and of
    // NODES: e an EXPRESSION, s a STATEMENT, h what an ARGUMENT hands on, c a CALL, t a TAKEN;
    // S and A a STATEMENT and an ARGUMENT, or NONE.
    private static final String[] FORMS = {
        "#00", "N00", "Ne0", "0ee", "0ee", "0ee", "0ee", "0ee", "NA0", "0hA", "N00", "N00",
        "0ss", "Ne0", "Nee", "Ses", "Les", "L00", "0e0", "0e0", "0c0", "Nt0"};

    int refusesNode(int kind, int a, int b, int c) {
        if (!isIn(kind, 0, 21)) {
            return 2;
        }
        String form = FORMS[kind];
        int[] given = {a, b, c};
        for (int k = 0; k < 3; k++) {
            if (!fits(form.charAt(k), given[k])) {
                return 2;
            }
            for (int j = 0; j < k; j++) {
                boolean areParts = "#NL0".indexOf(form.charAt(k)) < 0
                    && "#NL0".indexOf(form.charAt(j)) < 0;
                if (areParts && given[k] == given[j] && given[k] != NONE) {
                    return 2;
                }
            }
        }
        return nodes.size() == 110 ? 3 : 0;
    }

    private boolean fits(char form, int v) {
        switch (form) {
            case '0': return v == 0;
            case '#': return isIn(v, -999, 999);
            case 'N': return isIn(v, 0, 15);
            case 'L': return isIn(v, 0, 9);
            case 'S': return v == NONE || fits('s', v);
            case 'A': return v == NONE || isFree(v) && nodes.get(v).kind == 9;
            case 'e': return isFree(v) && nodes.get(v).kind <= 8;
            case 's': return isFree(v) && nodes.get(v).kind >= 12;
            case 'h': return isFree(v) && nodes.get(v).kind <= 11 && nodes.get(v).kind != 9;
            case 'c': return isFree(v) && nodes.get(v).kind == 8;
            default: return isFree(v) && nodes.get(v).kind == 10;
        }
    }

    private boolean isFree(int n) {
        return isIn(n, 0, nodes.size() - 1) && nodes.get(n).whole == NONE
            && nodes.get(n).bodyOf == NONE;
    }

    // ---- what is told to it

    void procedure(int parent, int name) {
        Proc p = new Proc();
        p.number = procs.size();
        p.parent = parent;
        p.name = name;
        procs.add(p);
        declare(procs.get(parent), name, 10, NONE, p.number);
    }

    void parameter(int p, int name, int mode) {
        Proc proc = procs.get(p);
        proc.modes.add(mode);
        proc.places.add(declare(proc, name, mode, proc.places.size(), 0));
    }

    void variable(int p, int name, int kind, int size) {
        Proc proc = procs.get(p);
        proc.variables++;
        if (kind == 3) {
            declare(proc, name, 9, NONE, size);
        } else {
            proc.places.add(declare(proc, name, 6 + kind, proc.places.size(), size));
        }
    }

    private Thing declare(Proc p, int name, int what, int place, int detail) {
        Thing t = new Thing();
        t.owner = p.number;
        t.what = what;
        t.place = place;
        t.detail = detail;
        p.names.put(name, t);
        return t;
    }

    void node(int kind, int a, int b, int c) {
        Node n = new Node();
        n.kind = kind;
        n.a = a;
        n.b = b;
        n.c = c;
        int number = nodes.size();
        nodes.add(n);
        for (int part : parts(number)) {
            nodes.get(part).whole = number;
        }
    }

    void body(int p, int n) {
        Proc proc = procs.get(p);
        if (proc.body != NONE) {
            nodes.get(proc.body).bodyOf = NONE;
        }
        proc.body = n;
        nodes.get(n).bodyOf = p;
    }

    /** The parts of a NODE in the order a, b, c. */
    List<Integer> parts(int number) {
        Node n = nodes.get(number);
        List<Integer> parts = new ArrayList<>();
        if (n.kind == 15 && n.a != NONE) {
            parts.add(n.a);
        }
        boolean hasB = n.kind >= 2 && n.kind <= 9 || n.kind >= 12 && n.kind <= 16
            || n.kind >= 18;
        if (hasB && n.b != NONE) {
            parts.add(n.b);
        }
        boolean hasC = n.kind >= 3 && n.kind <= 7 || n.kind == 9 || n.kind == 12
            || n.kind == 14 || n.kind == 15 || n.kind == 16;
        if (hasC && n.c != NONE) {
            parts.add(n.c);
        }
        return parts;
    }

    // ---- names

    boolean isInside(int p, int outer) {
        int at = procs.get(p).parent;
        return at != NONE && (at == outer || isInside(at, outer));
    }

    Thing resolve(int p, int name) {
        Thing t = procs.get(p).names.get(name);
        int parent = procs.get(p).parent;
        return t != null || parent == NONE ? t : resolve(parent, name);
    }

    int hops(int p, int owner) {
        return p == owner ? 0 : 1 + hops(procs.get(p).parent, owner);
    }

    boolean hasName(int n) {
        int kind = nodes.get(n).kind;
        return kind == 1 || kind == 2 || kind == 8 || kind == 10 || kind == 11 || kind == 13
            || kind == 14 || kind == 21;
    }

    int in(int n) {
        Node node = nodes.get(n);
        return node.whole != NONE ? in(node.whole) : node.bodyOf;
    }

    Thing thing(int n) {
        int p = in(n);
        return p == NONE || !hasName(n) ? null : resolve(p, nodes.get(n).a);
    }

    int hopsOf(int n) {
        Thing t = thing(n);
        return t == null ? NONE : hops(in(n), t.owner);
    }

    boolean isHandedOn(int p) {
        for (int n = 0; n < nodes.size(); n++) {
            Thing t = nodes.get(n).kind == 10 ? thing(n) : null;
            if (t != null && t.what == 10 && t.detail == p) {
                return true;
            }
        }
        return false;
    }

    boolean escapes(int p, int place) {
        for (int n = 0; n < nodes.size(); n++) {
            Thing t = thing(n);
            if (t == null || t.place != place || t.owner != p) {
                continue;
            }
            for (int at = in(n); at != p; at = procs.get(at).parent) {
                if (isHandedOn(at)) {
                    return true;
                }
            }
        }
        return false;
    }

    int escapes(int p) {
        int set = 0;
        for (int k = 0; k < procs.get(p).places.size(); k++) {
            set += escapes(p, k) ? 1 << k : 0;
        }
        return set;
    }

    int hiddenBy(int p, int name) {
        if (procs.get(p).names.containsKey(name)) {
            return 0;
        }
        int many = 0;
        for (int n = 0; n < nodes.size(); n++) {
            int q = in(n);
            if (!hasName(n) || q == NONE || nodes.get(n).a != name) {
                continue;
            }
            Thing before = thing(n);
            Thing would = declare(procs.get(p), name, 6, 0, 0);
            many += thing(n) == would && before != would ? 1 : 0;
            procs.get(p).names.remove(name);
        }
        return many;
    }

    // ---- what is compiled

    /** The value of what is FOLDED or a NUMBER; null of all else. */
    Integer known(int n) {
        Node node = nodes.get(n);
        if (node.kind == 0) {
            return node.a;
        }
        if (node.kind < 3 || node.kind > 7) {
            return null;
        }
        Integer b = known(node.b);
        Integer c = known(node.c);
        if (b == null || c == null || node.kind == 6 && c == 0) {
            return null;
        }
        return arithmetic(node.kind, b, c);
    }

    static int arithmetic(int kind, int b, int c) {
        return kind == 3 ? b + c : kind == 4 ? b - c : kind == 5 ? b * c : kind == 6 ? b / c
            : b < c ? 1 : 0;
    }

    boolean isFolded(int n) {
        return nodes.get(n).kind != 0 && known(n) != null;
    }

    boolean isTail(int n) {
        Node node = nodes.get(n);
        int p = in(n);
        if (node.kind != 18 || p == NONE || p == 0 || nodes.get(node.b).kind != 8) {
            return false;
        }
        Thing t = thing(node.b);
        return t != null && t.what == 10 && areAllValues(t.detail) && !isInside(t.detail, p)
            && escapes(p) == 0;
    }

    boolean areAllValues(int p) {
        for (int mode : procs.get(p).modes) {
            if (mode != 0) {
                return false;
            }
        }
        return true;
    }

    boolean hasLoop(int p, int label) {
        for (int n = 0; n < nodes.size(); n++) {
            if (nodes.get(n).kind == 16 && nodes.get(n).a == label && in(n) == p) {
                return true;
            }
        }
        return false;
    }

    /** HOPS to the PROCEDURE whose LOOP a BREAK ends; NONE without such a one. */
    int hopsToLoop(int n) {
        int label = nodes.get(n).a;
        for (int at = nodes.get(n).whole; at != NONE; at = nodes.get(at).whole) {
            if (nodes.get(at).kind == 16 && nodes.get(at).a == label) {
                return 0;
            }
        }
        int hops = 1;
        for (int p = procs.get(in(n)).parent; p != NONE; p = procs.get(p).parent) {
            if (hasLoop(p, label)) {
                return hops;
            }
            hops++;
        }
        return NONE;
    }

    /** One instruction: which, x, y and how many NODES begin with it. */
    List<int[]> code(int p, int passes) {
        List<int[]> out = new ArrayList<>();
        int[] pending = new int[1];
        emit(procs.get(p).body, 0, passes, out, pending);
        add(out, pending, 1, 0, 0);
        add(out, pending, 15, 0, 0);
        return out;
    }

    private static int[] add(List<int[]> out, int[] pending, int op, int x, int y) {
        int[] instruction = {op, x, y, pending[0]};
        pending[0] = 0;
        out.add(instruction);
        return instruction;
    }

    private int count(int n) {
        int many = 1;
        for (int part : parts(n)) {
            many += count(part);
        }
        return many;
    }

    private void addNamed(List<int[]> out, int[] pending, int op, int n) {
        Thing t = thing(n);
        add(out, pending, op, hopsOf(n), t.what == 10 ? t.detail : t.place);
    }

    private void emit(int n, int mode, int passes, List<int[]> out, int[] pending) {
        Node node = nodes.get(n);
        if ((passes & 1) != 0 && isFolded(n)) {
            pending[0] += count(n);
            add(out, pending, 1, known(n), 0);
            return;
        }
        pending[0]++;
        if (node.kind < 12) {
            emitExpression(n, node, mode, passes, out, pending);
            return;
        }
        switch (node.kind) {
            case 12:
                emit(node.b, 0, passes, out, pending);
                emit(node.c, 0, passes, out, pending);
                break;
            case 13: case 21:
                emit(node.b, 0, passes, out, pending);
                addNamed(out, pending, 19, n);
                break;
            case 14:
                emit(node.b, 0, passes, out, pending);
                emit(node.c, 0, passes, out, pending);
                addNamed(out, pending, 20, n);
                break;
            case 15: {
                emit(node.b, 0, passes, out, pending);
                int[] unless = add(out, pending, 21, 0, 0);
                emit(node.c, 0, passes, out, pending);
                if (node.a != NONE) {
                    int[] skip = add(out, pending, 22, 0, 0);
                    unless[1] = out.size();
                    emit(node.a, 0, passes, out, pending);
                    skip[1] = out.size();
                } else {
                    unless[1] = out.size();
                }
                break;
            }
            case 16: {
                add(out, pending, 23, node.a, 0);
                int begin = out.size();
                emit(node.b, 0, passes, out, pending);
                int[] unless = add(out, pending, 21, 0, 0);
                emit(node.c, 0, passes, out, pending);
                add(out, pending, 22, begin, 0);
                unless[1] = out.size();
                add(out, pending, 24, 0, 0);
                break;
            }
            case 17:
                add(out, pending, 25, hopsToLoop(n), node.a);
                break;
            case 18:
                emit(node.b, 0, passes, out, pending);
                if ((passes & 2) != 0 && isTail(n)) {
                    out.get(out.size() - 1)[0] = 11;
                } else {
                    add(out, pending, 15, 0, 0);
                }
                break;
            default:
                emit(node.b, 0, passes, out, pending);
                add(out, pending, node.kind == 19 ? 26 : 27, 0, 0);
                break;
        }
    }

    private void emitExpression(int n, Node node, int mode, int passes, List<int[]> out,
            int[] pending) {
        Thing t = thing(n);
        switch (node.kind) {
            case 0:
                add(out, pending, 1, node.a, 0);
                break;
            case 1:
                if (t.what == 9) {
                    add(out, pending, 1, t.detail, 0);
                } else {
                    addNamed(out, pending, mode == 1 ? 12 : 2, n);
                }
                break;
            case 2:
                emit(node.b, 0, passes, out, pending);
                addNamed(out, pending, mode == 1 ? 13 : 3, n);
                break;
            case 8:
                if (node.b != NONE) {
                    emitArguments(node.b, t, 0, passes, out, pending);
                }
                addNamed(out, pending, t.what == 10 ? 9 : 10, n);
                break;
            case 10:
                addNamed(out, pending, t.what == 10 ? 18 : 2, n);
                break;
            case 11:
                addNamed(out, pending, mode == 3 ? 16 : 17, n);
                break;
            default:
                emit(node.b, 0, passes, out, pending);
                emit(node.c, 0, passes, out, pending);
                add(out, pending, node.kind + 1, 0, 0);
                break;
        }
    }

    private void emitArguments(int n, Thing t, int k, int passes, List<int[]> out,
            int[] pending) {
        Node node = nodes.get(n);
        int mode = t.what == 10 ? procs.get(t.detail).modes.get(k) : 0;
        pending[0]++;
        if (mode == 2) {
            int[] later = add(out, pending, 14, 0, 0);
            emit(node.b, 0, passes, out, pending);
            add(out, pending, 15, 0, 0);
            later[1] = out.size();
        } else {
            emit(node.b, mode, passes, out, pending);
        }
        if (node.c != NONE) {
            emitArguments(node.c, t, k + 1, passes, out, pending);
        }
    }

    // ---- faults

    /** All FAULTS: which, PROCEDURE, NODE. */
    List<int[]> faults() {
        List<int[]> found = new ArrayList<>();
        for (Proc p : procs) {
            if (p.body == NONE) {
                found.add(new int[] {10, p.number, NONE});
            } else {
                findFaults(p.body, found);
            }
        }
        return found;
    }

    private void findFaults(int n, List<int[]> found) {
        int which = faultOf(n);
        if (which != 0) {
            found.add(new int[] {which, in(n), n});
        }
        for (int part : parts(n)) {
            findFaults(part, found);
        }
    }

    private static boolean isOneOf(int v, int... those) {
        for (int one : those) {
            if (v == one) {
                return true;
            }
        }
        return false;
    }

    private int faultOf(int n) {
        Node node = nodes.get(n);
        Thing t = thing(n);
        if (hasName(n) && t == null) {
            return 1;
        }
        switch (node.kind) {
            case 1: return isOneOf(t.what, 6, 9, 0, 1, 2) ? 0 : 2;
            case 2: case 11: case 14: return isOneOf(t.what, 7, 3, 4) ? 0 : 2;
            case 8: return isOneOf(t.what, 10, 5, 8) ? faultOfCall(node, t) : 2;
            case 10:
                return isOneOf(t.what, 5, 8) || t.what == 10 && areAllValues(t.detail) ? 0 : 2;
            case 13: return isOneOf(t.what, 9, 2) ? 3 : isOneOf(t.what, 6, 0, 1) ? 0 : 2;
            case 17: return hopsToLoop(n) == NONE ? 6 : 0;
            case 21: return t.what == 8 ? 0 : 2;
            default: return 0;
        }
    }

    List<Integer> arguments(Node call) {
        List<Integer> them = new ArrayList<>();
        for (int at = call.b; at != NONE; at = nodes.get(at).c) {
            them.add(nodes.get(at).b);
        }
        return them;
    }

    private int faultOfCall(Node node, Thing t) {
        List<Integer> given = arguments(node);
        List<Integer> modes = t.what == 10 ? procs.get(t.detail).modes : null;
        if (modes != null && modes.size() != given.size()) {
            return 4;
        }
        for (int k = 0; k < given.size(); k++) {
            if (!suits(given.get(k), modes == null ? 0 : modes.get(k))) {
                return 5;
            }
        }
        return 0;
    }

    private boolean suits(int n, int mode) {
        int kind = nodes.get(n).kind;
        Thing t = thing(n);
        switch (mode) {
            case 1: return kind == 2 || kind == 1 && t != null && isOneOf(t.what, 0, 1, 6);
            case 3: case 4: return kind == 11;
            case 5: return kind == 10;
            default: return kind <= 8;
        }
    }

    // ---- a run

    /** A number, an element of an array. */
    static final class Cell {
        int v;
    }

    static final class Closure {
        Proc proc;
        Frame link;
    }

    static final class Later {
        int n;
        Frame frame;
    }

    static final class Mark {
        int label;
    }

    static final class Frame {
        Proc proc;
        Frame link;
        boolean isUncounted;
        boolean hasEnded;
        final List<Object> slots = new ArrayList<>();
        final List<Mark> goingOn = new ArrayList<>();
    }

    private static class Jump extends RuntimeException {
        private static final long serialVersionUID = 1;

        Jump() {
            super(null, null, false, false);
        }
    }

    private static final class Trap extends Jump {
        private static final long serialVersionUID = 1;
    }

    private static final class Return extends Jump {
        private static final long serialVersionUID = 1;
        int v;
    }

    private static final class Break extends Jump {
        private static final long serialVersionUID = 1;
        transient Mark mark;
    }

    /** A run, and what it did; what is as ofRun() tells it. */
    final class Run {
        final int[] what = new int[10];
        final List<int[]> printed = new ArrayList<>();
        // How often something rare happened: far BREAKS, TAILS, what is BY NAME, FRAMES that
        // are used after their end.
        final int[] rare = new int[4];
        private final int passes;
        private final int most;
        private final int deep;
        private int depth = 0;
        private int live = 0;
        // Looked up once a run, for it is dear.
        private final Thing[] things = new Thing[nodes.size()];
        private final int[] hops = new int[nodes.size()];
        private final boolean[] tails = new boolean[nodes.size()];
        private final int[] escaping = new int[procs.size()];

        Run(int passes, int most, int deep) {
            this.passes = passes;
            this.most = most;
            this.deep = deep;
            what[1] = NONE;
            what[2] = NONE;
            for (int n = 0; n < nodes.size(); n++) {
                things[n] = thing(n);
                hops[n] = hopsOf(n);
                tails[n] = isTail(n);
            }
            for (int p = 0; p < procs.size(); p++) {
                escaping[p] = escapes(p);
            }
            try {
                what[9] = call(procs.get(0), null, new ArrayList<>());
            } catch (Trap t) {
                what[9] = 0;
            }
            what[4] = printed.size();
        }

        private Trap trap(int which, int n) {
            what[0] = which;
            what[1] = n;
            what[2] = in(n);
            return new Trap();
        }

        private void step(int n) {
            if (what[3] == most) {
                throw trap(6, n);
            }
            what[3]++;
        }

        private int call(Proc p, Frame link, List<Object> given) {
            Frame f = new Frame();
            f.proc = p;
            f.link = link;
            for (int k = 0; k < p.places.size(); k++) {
                f.slots.add(k < given.size() ? given.get(k) : fresh(p.places.get(k)));
            }
            depth++;
            live++;
            what[5]++;
            what[6] += (passes & 4) != 0 ? Integer.bitCount(escaping[p.number]) : p.places.size();
            what[7] = Math.max(what[7], live);
            what[8] = Math.max(what[8], depth);
            try {
                execute(p.body, f);
                return 0;
            } catch (Return r) {
                return r.v;
            } finally {
                f.hasEnded = true;
                f.goingOn.clear();
                depth--;
                live -= f.isUncounted ? 0 : 1;
            }
        }

        private Object fresh(Thing t) {
            if (t.what == 7) {
                Cell[] array = new Cell[t.detail];
                for (int k = 0; k < array.length; k++) {
                    array[k] = new Cell();
                }
                return array;
            }
            return t.what == 8 ? new Closure() : new Cell();
        }

        private Frame up(Frame f, int hops) {
            return hops == 0 ? f : up(f.link, hops - 1);
        }

        private Object slot(int n, Frame f) {
            Frame home = up(f, hops[n]);
            rare[3] += home.hasEnded ? 1 : 0;
            return home.slots.get(things[n].place);
        }

        private Cell element(int n, Frame f, int k, int trapped) {
            Cell[] array = (Cell[]) slot(n, f);
            if (k < 0 || k >= array.length) {
                throw trap(2, trapped);
            }
            return array[k];
        }

        private Closure taken(int n, Frame f) {
            step(n);
            Closure c = new Closure();
            Thing t = things[n];
            if (t.what == 10) {
                c.proc = procs.get(t.detail);
                c.link = up(f, hops[n]);
            } else {
                Closure old = (Closure) slot(n, f);
                c.proc = old.proc;
                c.link = old.link;
            }
            return c;
        }

        private int reckon(int n, Frame f) {
            step(n);
            Node node = nodes.get(n);
            switch (node.kind) {
                case 0:
                    return node.a;
                case 1: {
                    if (things[n].what == 9) {
                        return things[n].detail;
                    }
                    Object o = slot(n, f);
                    if (o instanceof Later) {
                        rare[2]++;
                        return reckon(((Later) o).n, ((Later) o).frame);
                    }
                    return ((Cell) o).v;
                }
                case 2:
                    return element(n, f, reckon(node.b, f), n).v;
                case 8:
                    return reckonCall(n, f, false);
                default: {
                    int b = reckon(node.b, f);
                    int c = reckon(node.c, f);
                    if (node.kind == 6 && c == 0) {
                        throw trap(1, n);
                    }
                    return arithmetic(node.kind, b, c);
                }
            }
        }

        private int reckonCall(int n, Frame f, boolean isTail) {
            Node node = nodes.get(n);
            Thing t = things[n];
            List<Object> given = new ArrayList<>();
            int k = 0;
            for (int at = node.b; at != NONE; at = nodes.get(at).c) {
                step(at);
                int mode = t.what == 10 ? procs.get(t.detail).modes.get(k) : 0;
                given.add(hand(nodes.get(at).b, f, mode));
                k++;
            }
            Proc p;
            Frame link;
            if (t.what == 10) {
                p = procs.get(t.detail);
                link = up(f, hops[n]);
            } else {
                Closure c = (Closure) slot(n, f);
                if (c.proc == null) {
                    throw trap(3, n);
                }
                if (c.proc.modes.size() != given.size()) {
                    throw trap(4, n);
                }
                p = c.proc;
                link = c.link;
            }
            if (depth == deep) {
                throw trap(7, n);
            }
            if (isTail) {
                rare[1]++;
                f.goingOn.clear();
                if ((passes & 2) != 0) {
                    f.isUncounted = true;
                    live--;
                }
            }
            return call(p, link, given);
        }

        private Object hand(int n, Frame f, int mode) {
            Node node = nodes.get(n);
            switch (mode) {
                case 1:
                    step(n);
                    return node.kind == 1 ? slot(n, f) : element(n, f, reckon(node.b, f), n);
                case 2: {
                    Later later = new Later();
                    later.n = n;
                    later.frame = f;
                    return later;
                }
                case 3: {
                    step(n);
                    Cell[] old = (Cell[]) slot(n, f);
                    Cell[] copy = new Cell[old.length];
                    for (int k = 0; k < old.length; k++) {
                        copy[k] = new Cell();
                        copy[k].v = old[k].v;
                    }
                    return copy;
                }
                case 4:
                    step(n);
                    return slot(n, f);
                case 5:
                    return taken(n, f);
                default: {
                    Cell c = new Cell();
                    c.v = reckon(n, f);
                    return c;
                }
            }
        }

        private void execute(int n, Frame f) {
            step(n);
            Node node = nodes.get(n);
            switch (node.kind) {
                case 12:
                    execute(node.b, f);
                    execute(node.c, f);
                    break;
                case 13: {
                    int v = reckon(node.b, f);
                    ((Cell) slot(n, f)).v = v;
                    break;
                }
                case 14: {
                    int k = reckon(node.b, f);
                    int v = reckon(node.c, f);
                    element(n, f, k, n).v = v;
                    break;
                }
                case 15:
                    if (reckon(node.b, f) != 0) {
                        execute(node.c, f);
                    } else if (node.a != NONE) {
                        execute(node.a, f);
                    }
                    break;
                case 16:
                    loop(node, f);
                    break;
                case 17:
                    throw leave(n, f);
                case 18: {
                    Return r = new Return();
                    if (nodes.get(node.b).kind == 8) {
                        step(node.b);
                        r.v = reckonCall(node.b, f, tails[n]);
                    } else {
                        r.v = reckon(node.b, f);
                    }
                    throw r;
                }
                case 19: {
                    int v = reckon(node.b, f);
                    printed.add(new int[] {v, what[3], n});
                    break;
                }
                case 20:
                    reckon(node.b, f);
                    break;
                default: {
                    Closure c = taken(node.b, f);
                    Closure kept = (Closure) slot(n, f);
                    kept.proc = c.proc;
                    kept.link = c.link;
                    break;
                }
            }
        }

        private void loop(Node node, Frame f) {
            Mark mark = new Mark();
            mark.label = node.a;
            f.goingOn.add(mark);
            try {
                while (reckon(node.b, f) != 0) {
                    execute(node.c, f);
                }
            } catch (Break b) {
                if (b.mark != mark) {
                    throw b;
                }
            } finally {
                f.goingOn.remove(mark);
            }
        }

        private Break leave(int n, Frame f) {
            int hops = hopsToLoop(n);
            rare[0] += hops > 0 ? 1 : 0;
            Frame home = up(f, hops);
            for (int k = home.goingOn.size() - 1; k >= 0; k--) {
                if (home.goingOn.get(k).label == nodes.get(n).a) {
                    Break b = new Break();
                    b.mark = home.goingOn.get(k);
                    return b;
                }
            }
            throw trap(5, n);
        }
    }
}
