/** Random runs of calls: every answer, and all that can be seen behind each call, is as the model's. */
public final class ModelTest {
    private static final int RUNS = 2500;
    private static final int CALLS = 200;

    public static void main(String[] args) {
        for (int run = 0; run < RUNS; run++) {
            oneRun(run);
        }
        Check.end();
    }

    private static void oneRun(int run) {
        RandomCalls r = new RandomCalls(run);
        FlowEngine e = new FlowEngine();
        Model m = new Model();
        int first = 3 + r.below(30);
        for (int i = 0; i < CALLS; i++) {
            String what = "run " + run + ", call " + i;
            if (i < first) {
                add(what, r, e, m);
            } else {
                call(what, r, e, m);
            }
            same(what, e, m);
        }
    }

    private static void add(String what, RandomCalls r, FlowEngine e, Model m) {
        int p = r.number(3);
        int[] in = r.instruction();
        Check.due(what + " add", e.add(p, in[0], in[1], in[2]), m.add(p, in[0], in[1], in[2]));
    }

    private static void call(String what, RandomCalls r, FlowEngine e, Model m) {
        int w = r.number(6);
        int v = r.value();
        int k = r.below(80);
        if (k < 2) {
            add(what, r, e, m);
        } else if (k < 5) {
            int p = r.number(3);
            int i = r.number(14);
            int[] in = r.instruction();
            Check.due(what + " change", e.change(p, i, in[0], in[1], in[2]), m.change(p, i, in[0], in[1], in[2]));
        } else if (k < 14) {
            int p = r.number(3);
            Check.due(what + " start", e.start(p, v), m.start(p, v));
        } else if (k < 18) {
            Check.due(what + " remove", e.remove(w), m.remove(w));
        } else if (k < 32) {
            int s = r.number(4);
            Check.due(what + " signal", e.signal(w, s, v), m.signal(w, s, v));
        } else if (k < 46) {
            Check.due(what + " take", e.take(), m.take());
        } else if (k < 62) {
            boolean good = !r.once(3);
            Check.due(what + " answer", e.answer(w, good, v), m.answer(w, good, v));
        } else if (k < 72) {
            int n = r.once(3) ? r.number(24) : 1 + r.below(3);
            Check.due(what + " tick", e.tick(n), m.tick(n));
        } else {
            Check.due(what + " forget", e.forget(w), m.forget(w));
        }
    }

    private static void same(String what, FlowEngine e, Model m) {
        for (int c = -1; c <= 13; c++) {
            Check.due(what + " count " + c, e.count(c), m.count(c));
        }
        for (int k = -2; k <= 6; k++) {
            Check.due(what + " line " + k, e.line(k), m.line(k));
        }
        for (int w = 0; w < 6; w++) {
            for (int i = -1; i <= 14; i++) {
                Check.due(what + " flow " + w + " " + i, e.flow(w, i), m.flow(w, i));
            }
            for (int k = 0; k <= m.flow(w, 2); k++) {
                for (int i = 0; i < 3; i++) {
                    Check.due(what + " entry " + w + " " + k + " " + i, e.entry(w, k, i), m.entry(w, k, i));
                }
            }
        }
    }
}
