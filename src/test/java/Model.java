import java.util.ArrayList;
import java.util.Arrays;
import java.util.List;

/**
 * A second engine, to compare with. It keeps of a workflow its history, the signals kept for it and its task;
 * place, variables and what is noted are worked out from the history each time something happens.
 */
final class Model {
    private static final int REFUSED = -1, NONE = -2, FULL = -3;
    private static final int[][] LIMITS = {
        {4, 0}, {4, 4}, {4, 4}, {15, 0}, {4, 15}, {4, 4}, {4, 0}, {4, 4}, {4, 4}, {0, 0}, {4, 0}};

    /** Thrown where a workflow waits or ends, so that its program can be written as plain running code. */
    private static final class Stop extends RuntimeException {
        private static final long serialVersionUID = 1L;
        final int state;

        Stop(int state) {
            super(null, null, false, false);
            this.state = state;
        }
    }

    private static final class Task {
        final int kind;
        int tries = 0;
        boolean out = false;
        int takenAt = 0;
        int due = 0;

        Task(int kind) {
            this.kind = kind;
        }
    }

    private static final class Flow {
        int program;
        List<int[]> history = new ArrayList<>();
        List<int[]> kept = new ArrayList<>();
        Task task = null;
        long sleepsSince = 0;
        boolean forgotten = false;
        int state = 0;
        int outcome = 0;
        // Of the last run:
        int[] variables = new int[4];
        int place = 0;
        List<int[]> noted = new ArrayList<>();

        boolean ended() {
            return state >= 5;
        }

        int[] last() {
            return history.get(history.size() - 1);
        }
    }

    private final List<List<int[]>> programs = Arrays.asList(new ArrayList<>(), new ArrayList<>(), new ArrayList<>());
    private final Flow[] flows = new Flow[6];
    private final List<Integer> queue = new ArrayList<>();
    private int time = 0;
    private final int[] counts = new int[10];

    /** One run of a workflow's program from place 0 through its history, and beyond it. */
    private final class Run {
        final Flow f;
        final int w;
        // Entries before this one were there when the event came that makes it go on; steps to there count if asked.
        final int known;
        final boolean counted;
        int at = 1;
        int budget = 60;

        Run(int w, int known, boolean counted) {
            this.w = w;
            this.f = flows[w];
            this.known = known;
            this.counted = counted;
        }

        void go() {
            f.place = 0;
            f.variables = new int[] {f.history.get(0)[2], 0, 0, 0};
            f.noted = new ArrayList<>();
            f.forgotten = false;
            try {
                while (oneStep()) {
                    continue;
                }
                while (!f.noted.isEmpty()) {
                    int[] n = f.noted.remove(f.noted.size() - 1);
                    activity(n[0], n[1], 4);
                }
                throw new Stop(6);
            } catch (Stop stop) {
                f.state = stop.state >= 5 && left() ? 7 : stop.state;
            }
            if (f.ended()) {
                counts[f.state + 2]++;
                f.task = null;
                queue.remove((Integer) w);
            }
        }

        boolean left() {
            return at < f.history.size();
        }

        /** False when the workflow fails. */
        boolean oneStep() {
            if (budget == 0) {
                throw new Stop(7);
            }
            budget--;
            if (counted) {
                counts[left() ? 4 : 3]++;
            } else if (at >= known) {
                counts[3]++;
            }
            List<int[]> program = programs.get(f.program);
            int[] in = f.place < program.size() ? program.get(f.place) : new int[] {10, 0, 0};
            int a = in[1], b = in[2];
            int[] v = f.variables;
            int next = f.place + 1;
            switch (in[0]) {
                case 0 -> v[a] = b;
                case 1 -> v[a] = v[a] + v[b];
                case 2 -> v[a] = v[a] < v[b] ? 1 : 0;
                case 3 -> next = a;
                case 4 -> next = v[a] == 0 ? b : next;
                case 5 -> {
                    int[] answer = activity(a, v[b], 1);
                    if (answer[0] == 4) {
                        return false;
                    }
                    v[b] = answer[2];
                }
                case 6 -> {
                    if (v[a] >= 1) {
                        if (write(5, v[a], 0)) {
                            f.sleepsSince = time;
                        }
                        event(2, 6, 6, 0);
                    }
                }
                case 7 -> v[b] = awaited(a);
                case 8 -> {
                    if (f.noted.size() == 6) {
                        throw new Stop(7);
                    }
                    f.noted.add(new int[] {a, v[b]});
                }
                case 9 -> {
                    return false;
                }
                default -> {
                    if (!left()) {
                        f.outcome = v[a];
                    }
                    throw new Stop(5);
                }
            }
            f.place = next;
            return true;
        }

        int[] activity(int kind, int argument, int state) {
            if (write(2, kind, argument)) {
                f.task = new Task(kind);
                queue.add(w);
            }
            return event(state, 3, 4, kind);
        }

        /** True if the entry was new. */
        boolean write(int... entry) {
            boolean isNew = !left();
            if (isNew) {
                if (f.history.size() == 20) {
                    throw new Stop(7);
                }
                f.history.add(entry);
            } else if (!Arrays.equals(entry, f.history.get(at))) {
                throw new Stop(7);
            }
            at++;
            return isNew;
        }

        int[] event(int state, int sort, int otherSort, int number) {
            if (!left()) {
                throw new Stop(state);
            }
            int[] entry = f.history.get(at);
            if ((entry[0] != sort && entry[0] != otherSort) || entry[1] != number) {
                throw new Stop(7);
            }
            at++;
            budget = 60;
            return entry;
        }

        int awaited(int s) {
            if (!left()) {
                for (int[] k : f.kept) {
                    if (k[0] == s) {
                        write(7, s, k[1]);
                        f.kept.remove(k);
                        return k[1];
                    }
                }
            }
            return event(3, 7, 7, s)[2];
        }
    }

    /** What a remembered workflow waits for is written, and it goes on. */
    private void happen(int w, int... entry) {
        Flow f = flows[w];
        if (f.history.size() == 20) {
            f.state = 7;
            counts[9]++;
            f.task = null;
            queue.remove((Integer) w);
            return;
        }
        f.history.add(entry);
        if (entry[0] == 3 || entry[0] == 4) {
            f.task = null;
            counts[6] += entry[0] == 4 ? 1 : 0;
        }
        new Run(w, f.history.size(), false).go();
    }

    private void remember(int w) {
        if (flows[w].forgotten) {
            counts[5]++;
            new Run(w, 0, true).go();
        }
    }

    private void wrong(int w) {
        Task t = flows[w].task;
        if (t.tries < 3) {
            t.out = false;
            t.due = time + (t.tries == 1 ? 2 : 4);
            queue.add(w);
            return;
        }
        remember(w);
        if (!flows[w].ended()) {
            happen(w, 4, t.kind, 0);
        }
    }

    private boolean fine(int p, int op, int a, int b) {
        return p >= 0 && p <= 2 && op >= 0 && op <= 10
                && (LIMITS[op][0] == 0 || a >= 0 && a < LIMITS[op][0])
                && (LIMITS[op][1] == 0 || b >= 0 && b < LIMITS[op][1]);
    }

    private void forgetAll(int p) {
        for (Flow f : flows) {
            if (f != null && f.program == p && !f.ended()) {
                f.forgotten = true;
            }
        }
    }

    private boolean there(int w) {
        return w >= 0 && w < 6 && flows[w] != null;
    }

    int add(int p, int op, int a, int b) {
        if (!fine(p, op, a, b)) {
            return REFUSED;
        }
        if (programs.get(p).size() == 14) {
            return FULL;
        }
        programs.get(p).add(new int[] {op, a, b});
        forgetAll(p);
        return programs.get(p).size() - 1;
    }

    boolean change(int p, int i, int op, int a, int b) {
        if (!fine(p, op, a, b) || i < 0 || i >= programs.get(p).size()) {
            return false;
        }
        programs.get(p).set(i, new int[] {op, a, b});
        forgetAll(p);
        return true;
    }

    int start(int p, int v) {
        if (p < 0 || p > 2) {
            return REFUSED;
        }
        for (int w = 0; w < 6; w++) {
            if (flows[w] == null) {
                flows[w] = new Flow();
                flows[w].program = p;
                flows[w].history.add(new int[] {1, p, v});
                new Run(w, 1, false).go();
                return w;
            }
        }
        return FULL;
    }

    boolean remove(int w) {
        if (!there(w)) {
            return false;
        }
        flows[w] = null;
        queue.remove((Integer) w);
        return true;
    }

    int signal(int w, int s, int v) {
        if (!there(w) || s < 0 || s > 3) {
            return REFUSED;
        }
        Flow f = flows[w];
        if (f.ended()) {
            return NONE;
        }
        if (f.kept.size() == 4) {
            return FULL;
        }
        remember(w);
        if (f.ended()) {
            return 0;
        }
        if (f.state == 3 && programs.get(f.program).get(f.place)[1] == s) {
            happen(w, 7, s, v);
            return 1;
        }
        f.kept.add(new int[] {s, v});
        return 0;
    }

    int take() {
        for (int w : queue) {
            Task t = flows[w].task;
            if (t.due <= time) {
                queue.remove((Integer) w);
                t.out = true;
                t.tries++;
                t.takenAt = time;
                return w;
            }
        }
        return NONE;
    }

    int answer(int w, boolean good, int v) {
        if (!there(w)) {
            return REFUSED;
        }
        Flow f = flows[w];
        if (f.task == null || !f.task.out) {
            return NONE;
        }
        if (good) {
            int kind = f.task.kind;
            remember(w);
            if (!f.ended()) {
                happen(w, 3, kind, v);
            }
        } else {
            wrong(w);
        }
        return f.state;
    }

    int tick(int n) {
        if (n < 1 || n > 20) {
            return REFUSED;
        }
        for (int i = 0; i < n; i++) {
            time++;
            for (int w = 0; w < 6; w++) {
                if (there(w) && flows[w].task != null && flows[w].task.out && flows[w].task.takenAt + 5 == time) {
                    wrong(w);
                }
            }
            for (int w = 0; w < 6; w++) {
                if (there(w) && flows[w].state == 2 && flows[w].sleepsSince + flows[w].last()[1] == time) {
                    remember(w);
                    if (!flows[w].ended()) {
                        happen(w, 6, 0, 0);
                    }
                }
            }
        }
        return time;
    }

    boolean forget(int w) {
        if (!there(w) || flows[w].ended() || flows[w].forgotten) {
            return false;
        }
        flows[w].forgotten = true;
        return true;
    }

    int flow(int w, int what) {
        if (w < 0 || w > 5 || what < 0 || what > 13) {
            return REFUSED;
        }
        Flow f = flows[w];
        if (f == null) {
            return 0;
        }
        boolean told = !f.forgotten && !f.ended();
        return switch (what) {
            case 0 -> f.state;
            case 1 -> f.program;
            case 2 -> f.history.size();
            case 3 -> told ? f.place : NONE;
            case 4 -> told ? f.noted.size() : NONE;
            case 5 -> f.state == 5 ? f.outcome : 0;
            case 6 -> f.kept.size();
            case 7 -> f.forgotten ? 1 : 0;
            case 8 -> f.task == null ? 0 : f.task.tries;
            case 9 -> f.task != null && f.task.out ? 1 : 0;
            default -> f.forgotten ? 0 : f.variables[what - 10];
        };
    }

    int entry(int w, int k, int what) {
        if (w < 0 || w > 5 || what < 0 || what > 2) {
            return REFUSED;
        }
        return flows[w] == null || k < 0 || k >= flows[w].history.size() ? NONE : flows[w].history.get(k)[what];
    }

    int line(int k) {
        return k == -1 ? queue.size() : k >= 0 && k < queue.size() ? queue.get(k) : NONE;
    }

    int count(int what) {
        if (what < 0 || what > 12) {
            return REFUSED;
        }
        int there = 0;
        int open = 0;
        for (Flow f : flows) {
            there += f != null ? 1 : 0;
            open += f != null && !f.ended() ? 1 : 0;
        }
        return switch (what) {
            case 0 -> time;
            case 1 -> there;
            case 2 -> open;
            case 10, 11, 12 -> programs.get(what - 10).size();
            default -> counts[what];
        };
    }
}
