import java.util.ArrayList;
import java.util.List;

/**
 * Runs a program by nothing but its CODE, as code() tells it with the PASSES that are on: the
 * document read a third time, from the side of the instructions. That must do what run() does.
 */
final class ToldCode {
    private static final int NONE = -1;

    /** Of a PROCEDURE: its CODE, and what there is at its PLACES. */
    private static final class Proc {
        int number;
        int parent;
        int parameters;
        int escaping;
        boolean hasValuesAlone = true;
        final List<int[]> code = new ArrayList<>();
        // What is at a PLACE, as ofName() tells it, and the size of an array.
        final List<int[]> places = new ArrayList<>();
        // How many ARGUMENTS a GOTO has, by its place in the CODE: that alone is not told there.
        final int[] given = new int[1000];
    }

    private static final class Cell {
        int v;
    }

    private static final class Closure {
        Proc proc;
        Frame link;
    }

    private static final class Later {
        int at;
        Frame frame;
    }

    private static final class Mark {
        int label;
        int shut;
        Activation opener;
    }

    private static final class Frame {
        Proc proc;
        Frame link;
        boolean isUncounted;
        final List<Object> slots = new ArrayList<>();
        final List<Mark> goingOn = new ArrayList<>();
    }

    /** Ends the run. */
    private static final class Trap extends RuntimeException {
        private static final long serialVersionUID = 1;

        Trap() {
            super(null, null, false, false);
        }
    }

    /** Ends all that was begun behind the OPEN of a LOOP. */
    private static final class Leave extends RuntimeException {
        private static final long serialVersionUID = 1;
        final transient Mark mark;

        Leave(Mark mark) {
            super(null, null, false, false);
            this.mark = mark;
        }
    }

    private final StaticLink x;
    private final int most;
    private final int deep;
    private final boolean hasSlots;
    private final List<Proc> procs = new ArrayList<>();
    private final List<int[]> printed = new ArrayList<>();
    private int trap = 0;
    private int steps = 0;
    private int calls = 0;
    private int cells = 0;
    private int live = 0;
    private int mostLive = 0;
    private int depth = 0;
    private int mostDepth = 0;
    private int gave = 0;

    private ToldCode(StaticLink x) {
        this.x = x;
        this.most = x.many(8);
        this.deep = x.many(9);
        this.hasSlots = (x.many(7) & 4) != 0;
        for (int p = 0; p < x.many(0); p++) {
            procs.add(read(p));
        }
    }

    /** Compares the latest run, if nothing was changed behind it, with one of the told CODE. */
    static void compare(Check check, StaticLink x, String what) {
        ToldCode told = new ToldCode(x);
        try {
            told.gave = told.call(told.procs.get(0), null, new ArrayList<>());
        } catch (Trap t) {
            told.gave = 0;
        }
        int[] asked = {0, 3, 4, 5, 6, 7, 8, 9};
        int[] want = {told.trap, told.steps, told.printed.size(), told.calls, told.cells,
            told.mostLive, told.mostDepth, told.gave};
        for (int k = 0; k < asked.length; k++) {
            check.due(what + ": by the told CODE, ofRun(" + asked[k] + ")", x.ofRun(asked[k]),
                want[k]);
        }
        for (int k = 0; k < Math.min(50, Math.min(x.ofRun(4), told.printed.size())); k++) {
            check.due(what + ": by the told CODE, number", x.printed(k, 0), told.printed.get(k)[0]);
            check.due(what + ": by the told CODE, STEPS", x.printed(k, 1), told.printed.get(k)[1]);
        }
    }

    // ---- what is told

    private Proc read(int p) {
        Proc proc = new Proc();
        proc.number = p;
        proc.parent = x.ofProcedure(p, 0);
        proc.parameters = x.ofProcedure(p, 2);
        proc.escaping = Integer.bitCount(x.ofProcedure(p, 4));
        for (int k = 0; k < x.ofProcedure(p, 7); k++) {
            proc.code.add(new int[] {x.code(p, k, 0), x.code(p, k, 1), x.code(p, k, 2),
                x.code(p, k, 3)});
        }
        for (int place = 0; place < 10; place++) {
            for (int name = 0; name <= 15; name++) {
                if (x.ofName(p, name, 0) == p && x.ofName(p, name, 2) == place) {
                    proc.places.add(new int[] {x.ofName(p, name, 3), x.ofName(p, name, 4)});
                }
            }
        }
        for (int k = 0; k < proc.parameters; k++) {
            proc.hasValuesAlone &= proc.places.get(k)[0] == 0;
        }
        List<Integer> given = new ArrayList<>();
        findGiven(x.ofProcedure(p, 6), given);
        int next = 0;
        for (int k = 0; k < proc.code.size(); k++) {
            if (proc.code.get(k)[0] == 10) {
                proc.given[k] = given.get(next);
                next++;
            }
        }
        return proc;
    }

    // How many ARGUMENTS the CALLS of PROCS have, in the order of their GOTOS.
    private void findGiven(int n, List<Integer> given) {
        int kind = x.ofNode(n, 0);
        boolean hasB = kind >= 2 && kind <= 9 || kind >= 12 && kind != 17;
        boolean hasC = kind >= 3 && kind <= 7 || kind == 9 || kind == 12
            || kind >= 14 && kind <= 16;
        if (hasB && x.ofNode(n, 2) != NONE) {
            findGiven(x.ofNode(n, 2), given);
        }
        if (hasC && x.ofNode(n, 3) != NONE) {
            findGiven(x.ofNode(n, 3), given);
        }
        if (kind == 15 && x.ofNode(n, 1) != NONE) {
            findGiven(x.ofNode(n, 1), given);
        }
        if (kind == 8 && x.ofName(x.ofNode(n, 4), x.ofNode(n, 1), 3) != 10) {
            int many = 0;
            for (int at = x.ofNode(n, 2); at != NONE; at = x.ofNode(at, 3)) {
                many++;
            }
            given.add(many);
        }
    }

    // ---- the run

    private Trap trap(int which) {
        trap = which;
        return new Trap();
    }

    private static Frame up(Frame f, int hops) {
        Frame at = f;
        for (int k = 0; k < hops; k++) {
            at = at.link;
        }
        return at;
    }

    private boolean isInside(int p, int outer) {
        int at = procs.get(p).parent;
        while (at != NONE && at != outer) {
            at = procs.get(at).parent;
        }
        return at == outer;
    }

    private int call(Proc p, Frame link, List<Object> given) {
        if (depth == deep) {
            throw trap(7);
        }
        Frame f = new Frame();
        f.proc = p;
        f.link = link;
        for (int k = 0; k < p.places.size(); k++) {
            f.slots.add(k < p.parameters ? given.get(k) : fresh(p.places.get(k)));
        }
        calls++;
        cells += hasSlots ? p.escaping : p.places.size();
        depth++;
        live++;
        mostDepth = Math.max(mostDepth, depth);
        mostLive = Math.max(mostLive, live);
        try {
            return new Activation(f, 0, false).run();
        } finally {
            f.goingOn.clear();
            depth--;
            live -= f.isUncounted ? 0 : 1;
        }
    }

    private static Object fresh(int[] place) {
        if (place[0] == 7) {
            Cell[] array = new Cell[place[1]];
            for (int k = 0; k < array.length; k++) {
                array[k] = new Cell();
            }
            return array;
        }
        return place[0] == 8 ? new Closure() : new Cell();
    }

    /** A way through the CODE of a PROCEDURE: of a FRAME, or of what is BY NAME, up to a BACK. */
    private final class Activation {
        private final Frame f;
        private final boolean isByName;
        private final List<Object> operands = new ArrayList<>();
        private int pc;

        Activation(Frame f, int pc, boolean isByName) {
            this.f = f;
            this.pc = pc;
            this.isByName = isByName;
        }

        int run() {
            while (true) {
                int[] i = f.proc.code.get(pc);
                if (steps + i[3] > most) {
                    steps = most;
                    throw trap(6);
                }
                steps += i[3];
                pc++;
                if (i[0] == 15) {
                    return pop();
                }
                try {
                    if (i[0] == 11) {
                        return jumpTo(i);
                    }
                    perform(i);
                } catch (Leave l) {
                    if (l.mark.opener != this) {
                        throw l;
                    }
                    operands.clear();
                    pc = l.mark.shut;
                    while (f.goingOn.get(f.goingOn.size() - 1) != l.mark) {
                        f.goingOn.remove(f.goingOn.size() - 1);
                    }
                }
            }
        }

        private int pop() {
            return (Integer) operands.remove(operands.size() - 1);
        }

        private Object slot(int[] i) {
            return up(f, i[1]).slots.get(i[2]);
        }

        private Cell element(int[] i, int k) {
            Cell[] array = (Cell[]) slot(i);
            if (k < 0 || k >= array.length) {
                throw trap(2);
            }
            return array[k];
        }

        private void perform(int[] i) {
            if (i[0] >= 4 && i[0] <= 8) {
                reckon(i[0]);
                return;
            }
            switch (i[0]) {
                case 1: operands.add(i[1]); break;
                case 2: get(slot(i)); break;
                case 3: operands.add(element(i, pop()).v); break;
                case 9: go(i); break;
                case 10: goTo((Closure) slot(i), f.proc.given[pc - 1]); break;
                case 12: operands.add((Cell) slot(i)); break;
                case 13: operands.add(element(i, pop())); break;
                case 14: later(i[1]); break;
                case 16: operands.add(copy((Cell[]) slot(i))); break;
                case 17: operands.add((Cell[]) slot(i)); break;
                case 18: operands.add(closure(procs.get(i[2]), up(f, i[1]))); break;
                case 19: put(slot(i)); break;
                case 20: stow(i); break;
                case 21: pc = pop() == 0 ? i[1] : pc; break;
                case 22: pc = i[1]; break;
                case 23: open(i[1]); break;
                case 24: f.goingOn.remove(f.goingOn.size() - 1); break;
                case 25: throw leave(up(f, i[1]), i[2]);
                case 26: printed.add(new int[] {pop(), steps}); break;
                case 27: pop(); break;
                default: throw new IllegalStateException("there is no instruction " + i[0]);
            }
        }

        private void reckon(int op) {
            int right = pop();
            int left = pop();
            if (op == 7 && right == 0) {
                throw trap(1);
            }
            operands.add(op == 4 ? left + right : op == 5 ? left - right : op == 6 ? left * right
                : op == 7 ? left / right : left < right ? 1 : 0);
        }

        private void get(Object there) {
            if (there instanceof Later) {
                Later l = (Later) there;
                operands.add(new Activation(l.frame, l.at, true).run());
            } else if (there instanceof Closure) {
                Closure c = (Closure) there;
                operands.add(closure(c.proc, c.link));
            } else {
                operands.add(((Cell) there).v);
            }
        }

        private void put(Object there) {
            Object top = operands.remove(operands.size() - 1);
            if (there instanceof Closure) {
                ((Closure) there).proc = ((Closure) top).proc;
                ((Closure) there).link = ((Closure) top).link;
            } else {
                ((Cell) there).v = (Integer) top;
            }
        }

        private void stow(int[] i) {
            int v = pop();
            element(i, pop()).v = v;
        }

        private Closure closure(Proc p, Frame link) {
            Closure c = new Closure();
            c.proc = p;
            c.link = link;
            return c;
        }

        private Cell[] copy(Cell[] array) {
            Cell[] copied = new Cell[array.length];
            for (int k = 0; k < array.length; k++) {
                copied[k] = new Cell();
                copied[k].v = array[k].v;
            }
            return copied;
        }

        private void later(int t) {
            Later l = new Later();
            l.at = pc;
            l.frame = f;
            operands.add(l);
            pc = t;
        }

        private void open(int label) {
            Mark mark = new Mark();
            mark.label = label;
            mark.opener = this;
            int open = 1;
            int at = pc;
            for (; open > 0; at++) {
                int op = f.proc.code.get(at)[0];
                open += op == 23 ? 1 : op == 24 ? -1 : 0;
            }
            mark.shut = at - 1;
            f.goingOn.add(mark);
        }

        private Leave leave(Frame home, int label) {
            for (int k = home.goingOn.size() - 1; k >= 0; k--) {
                if (home.goingOn.get(k).label == label) {
                    return new Leave(home.goingOn.get(k));
                }
            }
            throw trap(5);
        }

        private List<Object> handed(int many) {
            List<Object> last = operands.subList(operands.size() - many, operands.size());
            List<Object> given = new ArrayList<>();
            for (Object o : last) {
                Cell c = new Cell();
                c.v = o instanceof Integer ? (Integer) o : 0;
                given.add(o instanceof Integer ? c : o);
            }
            last.clear();
            return given;
        }

        // Without the pass TAIL nothing but its place tells that it is one: its FRAME ends, too.
        private void go(int[] i) {
            Proc p = procs.get(i[2]);
            List<Object> given = handed(p.parameters);
            boolean isTail = !isByName && f.proc.code.get(pc)[0] == 15 && f.proc.number != 0
                && f.proc.escaping == 0 && p.hasValuesAlone
                && !isInside(p.number, f.proc.number);
            if (isTail) {
                f.goingOn.clear();
            }
            operands.add(call(p, up(f, i[1]), given));
        }

        private int jumpTo(int[] i) {
            Proc p = procs.get(i[2]);
            List<Object> given = handed(p.parameters);
            if (depth == deep) {
                throw trap(7);
            }
            f.goingOn.clear();
            f.isUncounted = true;
            live--;
            return call(p, up(f, i[1]), given);
        }

        private void goTo(Closure c, int many) {
            List<Object> given = handed(many);
            if (c.proc == null) {
                throw trap(3);
            }
            if (c.proc.parameters != many) {
                throw trap(4);
            }
            operands.add(call(c.proc, c.link, given));
        }
    }
}
