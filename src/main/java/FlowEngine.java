/**
 * Runs workflows by what is written of them. Going on and replaying are one and the same walk through a program:
 * a history knows how many of its entries were passed, and only where none is left is anything written, or a task
 * made. So a replay of a program that was not changed can't do something else than the first walk did.
 */
public final class FlowEngine {
    public static final int REFUSED = -1;
    public static final int NONE = -2;
    public static final int FULL = -3;

    private static final int PROGRAMS = 3;
    private static final int WORKFLOWS = 6;
    private static final int VARIABLES = 4;
    private static final int SIGNALS = 4;
    private static final int MOST_INSTRUCTIONS = 14;
    private static final int MOST_ENTRIES = 20;
    private static final int MOST_NOTED = 6;
    private static final int MOST_KEPT = 4;
    private static final int MOST_STEPS = 60;
    private static final int MOST_TRIES = 3;
    private static final int MOST_TICKS = 20;
    private static final int TICKS_TO_ANSWER = 5;

    // A replay may do the most steps, and be broken by one more, behind each entry; the undoing comes on top.
    private static final int MOST_TURNS = (MOST_ENTRIES + 1) * (MOST_STEPS + 1) + MOST_NOTED + 1;

    private static final int SET = 0;
    private static final int ADD = 1;
    private static final int LESS = 2;
    private static final int JUMP = 3;
    private static final int ZERO = 4;
    private static final int CALL = 5;
    private static final int SLEEP = 6;
    private static final int AWAIT = 7;
    private static final int UNDO = 8;
    private static final int FAIL = 9;
    private static final int END = 10;

    // What a and b of each op must be below; 0 where the op does not look at it, or takes any int.
    private static final int[] FIRST_LIMITS = {4, 4, 4, 15, 4, 4, 4, 4, 4, 0, 4};
    private static final int[] SECOND_LIMITS = {0, 4, 4, 0, 15, 4, 0, 4, 4, 0, 0};

    private static final int START = 1;
    private static final int WANTED = 2;
    private static final int RESULT = 3;
    private static final int LOST = 4;
    private static final int SLEPT = 5;
    private static final int WOKE = 6;
    private static final int SIGNALLED = 7;

    // GOES_ON is seen by no caller: a workflow has left it when a call answers.
    private static final int GOES_ON = 0;
    private static final int WAITS = 1;
    private static final int SLEEPS = 2;
    private static final int AWAITS = 3;
    private static final int UNDOES = 4;
    private static final int DONE = 5;
    private static final int FAILED = 6;
    private static final int BROKEN = 7;

    private final Program[] programs = new Program[PROGRAMS];
    private final Workflow[] workflows = new Workflow[WORKFLOWS];
    private final TaskLine queue = new TaskLine();
    private int time;
    private int ownSteps;
    private int replayedSteps;
    private int replays;
    private int lostTasks;
    private int doneFlows;
    private int failedFlows;
    private int brokenFlows;

    public FlowEngine() {
        for (int p = 0; p < PROGRAMS; p++) {
            programs[p] = new Program();
        }
        for (int w = 0; w < WORKFLOWS; w++) {
            workflows[w] = new Workflow(w);
        }
    }

    public int add(int p, int op, int a, int b) {
        if (!isProgram(p) || !isInstruction(op, a, b)) {
            return REFUSED;
        }
        Program program = programs[p];
        if (program.size >= MOST_INSTRUCTIONS) {
            return FULL;
        }
        int i = program.size;
        program.size++;
        program.put(i, op, a, b);
        forgetAllOf(p);
        return i;
    }

    public boolean change(int p, int i, int op, int a, int b) {
        if (!isProgram(p) || !isInstruction(op, a, b) || !programs[p].has(i)) {
            return false;
        }
        programs[p].put(i, op, a, b);
        forgetAllOf(p);
        return true;
    }

    public int start(int p, int v) {
        if (!isProgram(p)) {
            return REFUSED;
        }
        int w = leastFree();
        if (w < 0) {
            return FULL;
        }
        workflows[w].begin(p, v);
        run(workflows[w]);
        return w;
    }

    public boolean remove(int w) {
        if (!isThere(w)) {
            return false;
        }
        dropTask(workflows[w]);
        workflows[w].there = false;
        return true;
    }

    public int signal(int w, int s, int v) {
        if (!isThere(w) || s < 0 || s >= SIGNALS) {
            return REFUSED;
        }
        Workflow flow = workflows[w];
        if (flow.hasEnded()) {
            return NONE;
        }
        if (flow.kept.isFull()) {
            return FULL;
        }
        remember(flow);
        if (flow.waitsFor(SIGNALLED, s)) {
            happen(flow, SIGNALLED, s, v);
            return 1;
        }
        if (!flow.hasEnded()) {
            flow.kept.keep(s, v);
        }
        return 0;
    }

    public int take() {
        for (int k = 0; k < queue.size; k++) {
            int w = queue.workflows[k];
            Task task = workflows[w].task;
            if (task.notBefore <= time) {
                queue.drop(w);
                task.goOut(time);
                return w;
            }
        }
        return NONE;
    }

    public int answer(int w, boolean good, int v) {
        if (!isThere(w)) {
            return REFUSED;
        }
        Workflow flow = workflows[w];
        if (!flow.task.out) {
            return NONE;
        }
        if (good) {
            remember(flow);
            happen(flow, RESULT, flow.task.kind, v);
        } else {
            goWrong(flow);
        }
        return flow.state;
    }

    public int tick(int n) {
        if (n < 1 || n > MOST_TICKS) {
            return REFUSED;
        }
        for (int i = 0; i < n; i++) {
            time++;
            for (int w = 0; w < WORKFLOWS; w++) {
                if (workflows[w].task.isOverdue(time)) {
                    goWrong(workflows[w]);
                }
            }
            for (int w = 0; w < WORKFLOWS; w++) {
                if (workflows[w].hasSlept(time)) {
                    remember(workflows[w]);
                    happen(workflows[w], WOKE, 0, 0);
                }
            }
        }
        return time;
    }

    public boolean forget(int w) {
        if (!isThere(w) || workflows[w].hasEnded() || workflows[w].forgotten) {
            return false;
        }
        workflows[w].forgotten = true;
        return true;
    }

    public int flow(int w, int what) {
        if (w < 0 || w >= WORKFLOWS || what < 0 || what >= 10 + VARIABLES) {
            return REFUSED;
        }
        Workflow flow = workflows[w];
        if (!flow.there) {
            return 0;
        }
        switch (what) {
            case 0: return flow.state;
            case 1: return flow.program;
            case 2: return flow.history.size;
            case 3: return flow.isInMind() ? flow.place : NONE;
            case 4: return flow.isInMind() ? flow.noted.size : NONE;
            case 5: return flow.state == DONE ? flow.outcome : 0;
            case 6: return flow.kept.size;
            case 7: return flow.forgotten ? 1 : 0;
            case 8: return flow.task.tries;
            case 9: return flow.task.out ? 1 : 0;
            default: return flow.forgotten ? 0 : flow.variables[what - 10];
        }
    }

    public int entry(int w, int k, int what) {
        if (w < 0 || w >= WORKFLOWS || what < 0 || what > 2) {
            return REFUSED;
        }
        History history = workflows[w].history;
        if (!workflows[w].there || k < 0 || k >= history.size) {
            return NONE;
        }
        switch (what) {
            case 0: return history.sorts[k];
            case 1: return history.numbers[k];
            default: return history.values[k];
        }
    }

    public int line(int k) {
        if (k == -1) {
            return queue.size;
        }
        return k >= 0 && k < queue.size ? queue.workflows[k] : NONE;
    }

    public int count(int what) {
        switch (what) {
            case 0: return time;
            case 1: return countThere(false);
            case 2: return countThere(true);
            case 3: return ownSteps;
            case 4: return replayedSteps;
            case 5: return replays;
            case 6: return lostTasks;
            case 7: return doneFlows;
            case 8: return failedFlows;
            case 9: return brokenFlows;
            default: return isProgram(what - 10) ? programs[what - 10].size : REFUSED;
        }
    }

    private static boolean isProgram(int p) {
        return p >= 0 && p < PROGRAMS;
    }

    private static boolean isInstruction(int op, int a, int b) {
        return op >= SET && op <= END && isWithin(a, FIRST_LIMITS[op]) && isWithin(b, SECOND_LIMITS[op]);
    }

    private static boolean isWithin(int number, int limit) {
        return limit == 0 || (number >= 0 && number < limit);
    }

    private boolean isThere(int w) {
        return w >= 0 && w < WORKFLOWS && workflows[w].there;
    }

    private int leastFree() {
        for (int w = 0; w < WORKFLOWS; w++) {
            if (!workflows[w].there) {
                return w;
            }
        }
        return -1;
    }

    private int countThere(boolean onlyNotEnded) {
        int n = 0;
        for (int w = 0; w < WORKFLOWS; w++) {
            if (workflows[w].there && !(onlyNotEnded && workflows[w].hasEnded())) {
                n++;
            }
        }
        return n;
    }

    private void forgetAllOf(int p) {
        for (int w = 0; w < WORKFLOWS; w++) {
            Workflow flow = workflows[w];
            if (flow.there && flow.program == p && !flow.hasEnded()) {
                flow.forgotten = true;
            }
        }
    }

    /** Replays a forgotten workflow; it may have ended behind that. */
    private void remember(Workflow flow) {
        if (flow.forgotten) {
            replays++;
            flow.rewind();
            run(flow);
        }
    }

    /** Writes what a remembered workflow waits for, and lets it go on by that. */
    private void happen(Workflow flow, int sort, int number, int value) {
        if (!flow.waitsFor(sort, number)) {
            return;
        }
        if (flow.history.admit(sort, number, value)) {
            if (sort == LOST) {
                lostTasks++;
            }
            dropTask(flow);
            flow.steps = 0;
            flow.resume(sort, value);
        } else {
            flow.state = BROKEN;
        }
        run(flow);
    }

    /** The task that is out was not answered in time, or went wrong. */
    private void goWrong(Workflow flow) {
        Task task = flow.task;
        if (task.tries >= MOST_TRIES) {
            remember(flow);
            happen(flow, LOST, task.kind, 0);
        } else {
            task.comeBack(time);
            queue.append(flow.number);
        }
    }

    /** Goes on till the workflow waits for what is not written yet, or has ended. */
    private void run(Workflow flow) {
        for (int turn = 0; turn < MOST_TURNS && flow.state == GOES_ON; turn++) {
            if (flow.failing) {
                undoLatest(flow);
            } else {
                step(flow);
            }
            if (flow.history.isLeft()) {
                flow.meetNext();
            }
        }
        if (flow.hasEnded()) {
            finish(flow);
        }
    }

    private void step(Workflow flow) {
        if (flow.steps >= MOST_STEPS) {
            flow.state = BROKEN;
            return;
        }
        flow.steps++;
        if (flow.history.isLeft()) {
            replayedSteps++;
        } else {
            ownSteps++;
        }
        Program program = programs[flow.program];
        int op = program.opAt(flow.place);
        int a = program.firstAt(flow.place);
        int b = program.secondAt(flow.place);
        switch (op) {
            case CALL:
                flow.target = b;
                want(flow, WAITS, a, flow.variables[b]);
                break;
            case SLEEP:
                sleep(flow, flow.variables[a]);
                break;
            case AWAIT:
                flow.target = b;
                awaitSignal(flow, a);
                break;
            case UNDO:
                flow.note(a, flow.variables[b]);
                break;
            case FAIL:
                flow.failing = true;
                break;
            case END:
                flow.outcome = flow.variables[a];
                flow.state = DONE;
                break;
            default:
                flow.compute(op, a, b);
        }
    }

    private void want(Workflow flow, int state, int kind, int argument) {
        boolean isNew = !flow.history.isLeft();
        if (!flow.history.admit(WANTED, kind, argument)) {
            flow.state = BROKEN;
            return;
        }
        flow.state = state;
        flow.awaited = kind;
        if (isNew) {
            flow.task.renew(kind);
            queue.append(flow.number);
        }
    }

    private void sleep(Workflow flow, int ticks) {
        if (ticks < 1) {
            flow.place++;
            return;
        }
        boolean isNew = !flow.history.isLeft();
        if (!flow.history.admit(SLEPT, ticks, 0)) {
            flow.state = BROKEN;
            return;
        }
        flow.state = SLEEPS;
        if (isNew) {
            flow.wakeTime = (long) time + ticks;
        }
    }

    private void awaitSignal(Workflow flow, int s) {
        flow.state = AWAITS;
        flow.awaited = s;
        int k = flow.kept.oldest(s);
        if (flow.history.isLeft() || k < 0) {
            return;
        }
        int value = flow.kept.values[k];
        if (!flow.history.admit(SIGNALLED, s, value)) {
            flow.state = BROKEN;
            return;
        }
        flow.kept.drop(k);
        // The steps are not counted anew: it has not waited.
        flow.resume(SIGNALLED, value);
    }

    private void undoLatest(Workflow flow) {
        UndoList noted = flow.noted;
        if (noted.size <= 0) {
            flow.state = FAILED;
            return;
        }
        noted.size--;
        want(flow, UNDOES, noted.kinds[noted.size], noted.arguments[noted.size]);
    }

    private void finish(Workflow flow) {
        if (flow.history.isLeft()) {
            flow.state = BROKEN;
        }
        if (flow.state == DONE) {
            doneFlows++;
        } else if (flow.state == FAILED) {
            failedFlows++;
        } else {
            brokenFlows++;
        }
        dropTask(flow);
    }

    private void dropTask(Workflow flow) {
        queue.drop(flow.number);
        flow.task.renew(0);
    }

    /** A program: where it has no instruction, END 0 stands. */
    private static final class Program {
        final int[] ops = new int[MOST_INSTRUCTIONS];
        final int[] firsts = new int[MOST_INSTRUCTIONS];
        final int[] seconds = new int[MOST_INSTRUCTIONS];
        int size;

        boolean has(int i) {
            return i >= 0 && i < size;
        }

        void put(int i, int op, int a, int b) {
            if (has(i)) {
                ops[i] = op;
                firsts[i] = a;
                seconds[i] = b;
            }
        }

        int opAt(int place) {
            return has(place) ? ops[place] : END;
        }

        int firstAt(int place) {
            return has(place) ? firsts[place] : 0;
        }

        int secondAt(int place) {
            return has(place) ? seconds[place] : 0;
        }
    }

    /** The entries of a workflow, and how many of them it has gone through: all, but in a replay. */
    private static final class History {
        final int[] sorts = new int[MOST_ENTRIES];
        final int[] numbers = new int[MOST_ENTRIES];
        final int[] values = new int[MOST_ENTRIES];
        int size;
        int passed;

        boolean isLeft() {
            return passed < size;
        }

        /** Passes the next entry if it is this one, or writes it where none is left; false if neither can be. */
        boolean admit(int sort, int number, int value) {
            if (passed < size) {
                if (sorts[passed] != sort || numbers[passed] != number || values[passed] != value) {
                    return false;
                }
                passed++;
                return true;
            }
            if (size >= MOST_ENTRIES) {
                return false;
            }
            sorts[size] = sort;
            numbers[size] = number;
            values[size] = value;
            size++;
            passed = size;
            return true;
        }
    }

    /** The signals kept for a workflow, the oldest first. */
    private static final class KeptSignals {
        final int[] numbers = new int[MOST_KEPT];
        final int[] values = new int[MOST_KEPT];
        int size;

        boolean isFull() {
            return size >= MOST_KEPT;
        }

        void keep(int s, int v) {
            if (!isFull()) {
                numbers[size] = s;
                values[size] = v;
                size++;
            }
        }

        int oldest(int s) {
            for (int k = 0; k < size; k++) {
                if (numbers[k] == s) {
                    return k;
                }
            }
            return -1;
        }

        void drop(int k) {
            if (k < 0 || k >= size) {
                return;
            }
            for (int i = k; i + 1 < size; i++) {
                numbers[i] = numbers[i + 1];
                values[i] = values[i + 1];
            }
            size--;
        }
    }

    /** The activities noted by UNDO and not wanted yet, the latest last. */
    private static final class UndoList {
        final int[] kinds = new int[MOST_NOTED];
        final int[] arguments = new int[MOST_NOTED];
        int size;
    }

    /** The one task that a workflow can have. Its argument stands in the history alone. */
    private static final class Task {
        int kind;
        int tries;
        boolean out;
        int takenTime;
        int notBefore;

        void renew(int wantedKind) {
            kind = wantedKind;
            tries = 0;
            out = false;
            takenTime = 0;
            notBefore = 0;
        }

        void goOut(int now) {
            out = true;
            tries++;
            takenTime = now;
        }

        void comeBack(int now) {
            out = false;
            notBefore = now + (1 << tries);
        }

        boolean isOverdue(int now) {
            return out && now - takenTime >= TICKS_TO_ANSWER;
        }
    }

    /** The workflows whose tasks are in the line, the first one first. */
    private static final class TaskLine {
        final int[] workflows = new int[WORKFLOWS];
        int size;

        void append(int w) {
            if (size < WORKFLOWS) {
                workflows[size] = w;
                size++;
            }
        }

        void drop(int w) {
            int left = 0;
            for (int k = 0; k < size; k++) {
                if (workflows[k] != w) {
                    workflows[left] = workflows[k];
                    left++;
                }
            }
            size = left;
        }
    }

    private static final class Workflow {
        final int number;
        final int[] variables = new int[VARIABLES];
        final History history = new History();
        final KeptSignals kept = new KeptSignals();
        final UndoList noted = new UndoList();
        final Task task = new Task();
        boolean there;
        boolean forgotten;
        boolean failing;
        int program;
        int state;
        int place;
        int steps;
        int awaited;
        int target;
        int outcome;
        long wakeTime;

        Workflow(int number) {
            this.number = number;
        }

        void begin(int p, int v) {
            there = true;
            program = p;
            kept.size = 0;
            history.size = 0;
            history.passed = 0;
            history.admit(START, p, v);
            rewind();
        }

        /** Back to where it started, with all entries but the first one still to be gone through. */
        void rewind() {
            forgotten = false;
            failing = false;
            state = GOES_ON;
            place = 0;
            steps = 0;
            noted.size = 0;
            history.passed = 1;
            variables[0] = history.values[0];
            for (int v = 1; v < VARIABLES; v++) {
                variables[v] = 0;
            }
        }

        boolean hasEnded() {
            return state >= DONE;
        }

        /** Whether its place and what is noted can be told. */
        boolean isInMind() {
            return !forgotten && !hasEnded();
        }

        boolean hasSlept(int now) {
            return there && state == SLEEPS && wakeTime <= now;
        }

        boolean waitsFor(int sort, int entryNumber) {
            switch (state) {
                case WAITS:
                case UNDOES: return (sort == RESULT || sort == LOST) && entryNumber == awaited;
                case SLEEPS: return sort == WOKE;
                case AWAITS: return sort == SIGNALLED && entryNumber == awaited;
                default: return false;
            }
        }

        /** In a replay: where it waits, it goes on by the next entry, or is broken. */
        void meetNext() {
            int next = history.passed;
            if (state == GOES_ON || hasEnded() || next >= history.size) {
                return;
            }
            if (!waitsFor(history.sorts[next], history.numbers[next])) {
                state = BROKEN;
                return;
            }
            history.passed++;
            steps = 0;
            resume(history.sorts[next], history.values[next]);
        }

        /** Goes on by an entry for which it has waited. */
        void resume(int sort, int value) {
            if (sort == LOST) {
                failing = true;
            }
            if (!failing) {
                if (state != SLEEPS) {
                    variables[target] = value;
                }
                place++;
            }
            state = GOES_ON;
        }

        void note(int kind, int argument) {
            if (noted.size >= MOST_NOTED) {
                state = BROKEN;
                return;
            }
            noted.kinds[noted.size] = kind;
            noted.arguments[noted.size] = argument;
            noted.size++;
            place++;
        }

        void compute(int op, int a, int b) {
            int next = place + 1;
            switch (op) {
                case SET:
                    variables[a] = b;
                    break;
                case ADD:
                    variables[a] += variables[b];
                    break;
                case LESS:
                    variables[a] = variables[a] < variables[b] ? 1 : 0;
                    break;
                case JUMP:
                    next = a;
                    break;
                case ZERO:
                    next = variables[a] == 0 ? b : next;
                    break;
                default:
                    break;
            }
            place = next;
        }
    }
}
