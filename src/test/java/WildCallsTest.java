/** No call throws or hangs, whatever the numbers and however many the calls (rule 7 of LANGUAGE.md). */
public final class WildCallsTest {
    private static final int RUNS = 400;
    private static final int CALLS = 700;
    private static final int[] FAR = {Integer.MIN_VALUE, Integer.MIN_VALUE + 1, Integer.MAX_VALUE - 1, Integer.MAX_VALUE};

    public static void main(String[] args) {
        for (int run = 0; run < RUNS; run++) {
            RandomCalls r = new RandomCalls(run);
            FlowEngine e = new FlowEngine();
            for (int i = 0; i < CALLS; i++) {
                call("run " + run + ", call " + i, r, e);
            }
        }
        Check.end();
    }

    private static int wild(RandomCalls r) {
        return r.once(12) ? FAR[r.below(FAR.length)] : r.below(25) - 3;
    }

    /** Within 0 to n - 1 nearly always, so that the calls do something. */
    private static int near(RandomCalls r, int n) {
        return r.once(12) ? wild(r) : r.below(n);
    }

    private static void call(String what, RandomCalls r, FlowEngine e) {
        int x = near(r, 6);
        int y = wild(r);
        int z = wild(r);
        try {
            switch (r.below(15)) {
                case 0, 1, 2 -> e.add(near(r, 3), near(r, 11), near(r, 4), r.once(2) ? y : near(r, 4));
                case 3 -> e.change(near(r, 3), near(r, 14), near(r, 11), near(r, 4), z);
                case 4, 5 -> e.start(near(r, 3), y);
                case 6 -> e.remove(x);
                case 7 -> e.signal(x, near(r, 4), z);
                case 8 -> e.take();
                case 9 -> e.answer(x, r.once(2), z);
                case 10 -> e.tick(y);
                case 11 -> e.forget(x);
                case 12 -> e.flow(x, y);
                case 13 -> e.entry(x, y, near(r, 3));
                default -> Check.due("line and count", e.line(y) >= Check.NONE && e.count(z) >= Check.REFUSED, true);
            }
        } catch (RuntimeException thrown) {
            Check.due(what + " throws " + thrown, true, false);
        }
    }
}
