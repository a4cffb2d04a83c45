/**
 * Two engines get the same calls, but one forgets its workflows again and again. As long as programs stay as
 * they are, nothing of what happens to a workflow may be another by that.
 */
public final class ForgettingTest {
    private static final int RUNS = 2000;
    private static final int CALLS = 160;

    public static void main(String[] args) {
        for (int run = 0; run < RUNS; run++) {
            oneRun(run);
        }
        Check.end();
    }

    private static void oneRun(int run) {
        RandomCalls r = new RandomCalls(run);
        FlowEngine forgetful = new FlowEngine();
        FlowEngine other = new FlowEngine();
        for (int i = 0; i < 30; i++) {
            int p = r.below(3);
            int[] in = r.instruction();
            Check.due("add", forgetful.add(p, in[0], in[1], in[2]), other.add(p, in[0], in[1], in[2]));
        }
        for (int i = 0; i < CALLS; i++) {
            String what = "run " + run + ", call " + i;
            call(what, r, forgetful, other);
            if (r.once(2)) {
                forgetful.forget(r.below(6));
            }
            same(what, forgetful, other);
        }
    }

    private static void call(String what, RandomCalls r, FlowEngine e, FlowEngine f) {
        int w = r.below(6);
        int v = r.value();
        int k = r.below(60);
        if (k < 8) {
            Check.due(what + " start", e.start(k % 3, v), f.start(k % 3, v));
        } else if (k < 10) {
            Check.due(what + " remove", e.remove(w), f.remove(w));
        } else if (k < 22) {
            int s = r.below(4);
            Check.due(what + " signal", e.signal(w, s, v), f.signal(w, s, v));
        } else if (k < 36) {
            Check.due(what + " take", e.take(), f.take());
        } else if (k < 50) {
            boolean good = !r.once(3);
            Check.due(what + " answer", e.answer(w, good, v), f.answer(w, good, v));
        } else {
            int n = 1 + r.below(4);
            Check.due(what + " tick", e.tick(n), f.tick(n));
        }
    }

    private static void same(String what, FlowEngine e, FlowEngine f) {
        // INSTRUCTIONS done, REPLAYED ones and REPLAYS may differ.
        for (int c : new int[] {0, 1, 2, 6, 7, 8, 9}) {
            Check.due(what + " count " + c, e.count(c), f.count(c));
        }
        for (int k = -1; k <= 6; k++) {
            Check.due(what + " line " + k, e.line(k), f.line(k));
        }
        for (int w = 0; w < 6; w++) {
            boolean forgotten = e.flow(w, 7) == 1;
            for (int i = 0; i <= 13; i++) {
                boolean hidden = i == 3 || i == 4 || i >= 10;
                if (i != 7 && !(forgotten && hidden)) {
                    Check.due(what + " flow " + w + " " + i, e.flow(w, i), f.flow(w, i));
                }
            }
            for (int k = 0; k <= f.flow(w, 2); k++) {
                Check.due(what + " entry " + w + " " + k, e.entry(w, k, 0), f.entry(w, k, 0));
                Check.due(what + " value " + w + " " + k, e.entry(w, k, 2), f.entry(w, k, 2));
            }
        }
    }
}
