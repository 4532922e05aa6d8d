import java.util.ArrayList;
import java.util.List;

/** A StaticLink and a Model, that are told the same; their answers are compared. */
final class Twin {
    private static final Class<?>[] REFUSALS = {null, IndexOutOfBoundsException.class,
        IllegalArgumentException.class, IllegalStateException.class};

    final StaticLink link = new StaticLink();
    final Model model = new Model();
    final Check check;
    final StringBuilder calls = new StringBuilder();
    final int[] rare = new int[4];
    final int[] traps = new int[8];
    private int passes = 7;
    private int most = 1000;
    private int deep = 20;
    private int runs = 0;
    private Model.Run latest = null;

    Twin(Check check) {
        this.check = check;
    }

    /** A call that answers a number. */
    interface Asked {
        long answer();
    }

    /** Makes a call that is refused as told; whether it was taken. */
    boolean take(String call, int refusal, long want, Asked asked) {
        calls.append(call).append("; ");
        long got = 0;
        Class<?> thrown = null;
        try {
            got = asked.answer();
        } catch (RuntimeException e) {
            thrown = e.getClass();
        }
        if (thrown != REFUSALS[refusal] || thrown == null && got != want) {
            check.fail(call + " answered " + got + ", threw " + thrown + ", due is " + want
                + ", " + REFUSALS[refusal] + " after " + calls);
        }
        return thrown == null && refusal == 0;
    }

    boolean procedure(int parent, int name) {
        int refusal = model.refusesProcedure(parent, name);
        boolean taken = take("procedure(" + parent + ", " + name + ")", refusal,
            model.procs.size(), () -> link.procedure(parent, name));
        if (taken) {
            model.procedure(parent, name);
        }
        return taken;
    }

    boolean parameter(int p, int name, int mode) {
        int refusal = model.refusesParameter(p, name, mode);
        int place = refusal == 0 ? model.procs.get(p).places.size() : 0;
        boolean taken = take("parameter(" + p + ", " + name + ", " + mode + ")", refusal, place,
            () -> link.parameter(p, name, mode));
        if (taken) {
            model.parameter(p, name, mode);
        }
        return taken;
    }

    boolean variable(int p, int name, int kind, int size) {
        int refusal = model.refusesVariable(p, name, kind, size);
        int place = refusal == 0 && kind != 3 ? model.procs.get(p).places.size() : -1;
        boolean taken = take("variable(" + p + ", " + name + ", " + kind + ", " + size + ")",
            refusal, place, () -> link.variable(p, name, kind, size));
        if (taken) {
            model.variable(p, name, kind, size);
        }
        return taken;
    }

    /** The number of the new NODE; -1, if it was refused. */
    int node(int kind, int a, int b, int c) {
        int refusal = model.refusesNode(kind, a, b, c);
        int number = model.nodes.size();
        boolean taken = take("node(" + kind + ", " + a + ", " + b + ", " + c + ")", refusal,
            number, () -> link.node(kind, a, b, c));
        if (taken) {
            model.node(kind, a, b, c);
        }
        return taken ? number : -1;
    }

    boolean body(int p, int n) {
        int refusal = model.refusesBody(p, n);
        int before = refusal == 0 ? model.procs.get(p).body : 0;
        boolean taken = take("body(" + p + ", " + n + ")", refusal, before,
            () -> link.body(p, n));
        if (taken) {
            model.body(p, n);
        }
        return taken;
    }

    void passes(int now) {
        boolean isRight = now >= 0 && now <= 7;
        if (take("passes(" + now + ")", isRight ? 0 : 2, passes, () -> link.passes(now))) {
            passes = now;
        }
    }

    void limits(int nowMost, int nowDeep) {
        boolean isRight = nowMost >= 1 && nowMost <= 3000 && nowDeep >= 1 && nowDeep <= 40;
        if (take("limits(" + nowMost + ", " + nowDeep + ")", isRight ? 0 : 2, most,
                () -> link.limits(nowMost, nowDeep))) {
            most = nowMost;
            deep = nowDeep;
        }
    }

    void run() {
        if (!model.faults().isEmpty()) {
            take("run()", 3, 0, () -> link.run());
            return;
        }
        Model.Run made = model.new Run(passes, most, deep);
        take("run()", 0, made.what[0], () -> link.run());
        ToldCode.compare(check, link, "run()");
        latest = made;
        runs++;
        traps[made.what[0]]++;
        for (int k = 0; k < rare.length; k++) {
            rare[k] += made.rare[k];
        }
    }

    private void due(String call, long got, long want) {
        if (got != want) {
            check.fail(call + " answered " + got + ", due is " + want + " after " + calls);
        }
    }

    // ---- what is asked

    private long[] many(List<int[]> faults) {
        long none = 0;
        long tails = 0;
        long folded = 0;
        long escaping = 0;
        for (int n = 0; n < model.nodes.size(); n++) {
            boolean isIn = model.in(n) != -1;
            none += isIn ? 0 : 1;
            tails += isIn && model.isTail(n) ? 1 : 0;
            folded += isIn && model.isFolded(n) ? 1 : 0;
        }
        for (int p = 0; p < model.procs.size(); p++) {
            escaping += Integer.bitCount(model.escapes(p));
        }
        return new long[] {model.procs.size(), model.nodes.size(), none, faults.size(), tails,
            folded, escaping, passes, most, deep, wholeLength(faults, passes)};
    }

    private long wholeLength(List<int[]> faults, int with) {
        long length = 0;
        for (int p = 0; p < model.procs.size() && faults.isEmpty(); p++) {
            length += model.code(p, with).size();
        }
        return length;
    }

    /** All that can be asked, and the digest of it. */
    void askAll() {
        long[] d = {58126};
        List<int[]> faults = model.faults();
        long[] many = many(faults);
        for (int what = 0; what <= 10; what++) {
            int asked = what;
            take("many(" + what + ")", 0, many[what], () -> link.many(asked));
            d[0] = d[0] * 31 + many[what];
        }
        for (int p = 0; p < model.procs.size(); p++) {
            askProcedure(p, faults, d);
        }
        for (int n = 0; n < model.nodes.size(); n++) {
            askNode(n, d);
        }
        for (int k = 0; k < faults.size(); k++) {
            for (int what = 0; what <= 2; what++) {
                due("fault(" + k + ", " + what + ")", link.fault(k, what), faults.get(k)[what]);
                d[0] = d[0] * 31 + faults.get(k)[what];
            }
        }
        take("fault(" + faults.size() + ", 9)", 1, 0, () -> link.fault(faults.size(), 9));
        askRun(d);
        if (faults.isEmpty()) {
            askTrials(faults, d);
        } else {
            take("wouldRun(1, 1, 0)", 3, 0, () -> link.wouldRun(1, 1, 0));
            take("with(1, 1)", 3, 0, () -> link.with(1, 1));
        }
        take("digest()", 0, d[0], () -> link.digest());
    }

    private void askProcedure(int p, List<int[]> faults, long[] d) {
        Model.Proc proc = model.procs.get(p);
        List<int[]> code = faults.isEmpty() ? model.code(p, passes) : new ArrayList<>();
        long[] of = {proc.parent, proc.name, proc.modes.size(), proc.variables,
            model.escapes(p), model.isHandedOn(p) ? 1 : 0, proc.body, code.size()};
        for (int what = 0; what <= 7; what++) {
            due("ofProcedure(" + p + ", " + what + ")", link.ofProcedure(p, what), of[what]);
            d[0] = d[0] * 31 + of[what];
        }
        for (int name = 0; name <= 15; name++) {
            int want = model.hiddenBy(p, name);
            due("hiddenBy(" + p + ", " + name + ")", link.hiddenBy(p, name), want);
            d[0] = name <= 7 ? d[0] * 31 + want : d[0];
            Model.Thing t = model.resolve(p, name);
            int[] is = t == null ? new int[] {-1, -1, -1, -1, -1}
                : new int[] {t.owner, model.hops(p, t.owner), t.place, t.what, t.detail};
            for (int what = 0; what <= 4; what++) {
                due("ofName(" + p + ", " + name + ", " + what + ")",
                    link.ofName(p, name, what), is[what]);
            }
        }
        for (int k = 0; k < code.size(); k++) {
            for (int what = 0; what <= 3; what++) {
                due("code(" + p + ", " + k + ", " + what + ")", link.code(p, k, what),
                    code.get(k)[what]);
                d[0] = d[0] * 31 + code.get(k)[what];
            }
        }
        take("code(" + p + ", " + code.size() + ", 4)", 1, 0, () -> link.code(p, code.size(), 4));
    }

    private void askNode(int n, long[] d) {
        Model.Node node = model.nodes.get(n);
        int[] of = {node.kind, node.a, node.b, node.c, model.in(n), model.isFolded(n) ? 1 : 0,
            model.isTail(n) ? 1 : 0, model.hopsOf(n)};
        for (int what = 0; what <= 7; what++) {
            due("ofNode(" + n + ", " + what + ")", link.ofNode(n, what), of[what]);
            d[0] = what >= 4 ? d[0] * 31 + of[what] : d[0];
        }
    }

    private void askRun(long[] d) {
        for (int what = 0; what <= 10; what++) {
            int want = what == 10 ? runs : latest == null ? 0 : latest.what[what];
            due("ofRun(" + what + ")", link.ofRun(what), want);
            d[0] = d[0] * 31 + want;
        }
        int printed = latest == null ? 0 : latest.printed.size();
        int kept = Math.min(50, printed);
        double sum = 0;
        for (int k = 0; k < printed; k++) {
            sum += latest.printed.get(k)[0];
            for (int what = 0; what <= 2 && k < kept; what++) {
                int want = latest.printed.get(k)[what];
                due("printed(" + k + ", " + what + ")", link.printed(k, what), want);
                d[0] = d[0] * 31 + want;
            }
        }
        take("printed(" + kept + ", 3)", 1, 0, () -> link.printed(kept, 3));
        check.due("meanPrinted()", link.meanPrinted(), printed == 0 ? 0.0 : sum / printed);
    }

    private void askTrials(List<int[]> faults, long[] d) {
        for (int with = 0; with <= 7; with++) {
            Model.Run trial = model.new Run(with, most, deep);
            long[] want = {wholeLength(faults, with), trial.what[6], trial.what[7]};
            for (int what = 0; what <= 2; what++) {
                due("with(" + with + ", " + what + ")", link.with(with, what), want[what]);
                d[0] = with == 0 ? d[0] * 31 + want[what] : d[0];
            }
        }
        int[][] limits = {{200, 10}, {3000, 40}, {37, 40}, {500, 3}};
        for (int[] limit : limits) {
            Model.Run trial = model.new Run(passes, limit[0], limit[1]);
            for (int what = 0; what <= 9; what++) {
                due("wouldRun(" + limit[0] + ", " + limit[1] + ", " + what + ")",
                    link.wouldRun(limit[0], limit[1], what), trial.what[what]);
                d[0] = limit[0] == 200 ? d[0] * 31 + trial.what[what] : d[0];
            }
        }
    }
}
