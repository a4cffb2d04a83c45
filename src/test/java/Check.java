/** What the tests share: names for ops and sorts, and a tally of wrong answers. */
final class Check {
    static final int SET = 0, ADD = 1, LESS = 2, JUMP = 3, ZERO = 4, CALL = 5;
    static final int SLEEP = 6, AWAIT = 7, UNDO = 8, FAIL = 9, END = 10;
    static final int WAITS = 1, SLEEPS = 2, AWAITS = 3, UNDOES = 4, DONE = 5, FAILED = 6, BROKEN = 7;
    static final int START = 1, WANTED = 2, RESULT = 3, LOST = 4, SLEPT = 5, WOKE = 6, SIGNAL = 7;
    static final int REFUSED = -1, NONE = -2, FULL = -3;

    private static int wrong = 0;

    private Check() {
    }

    static void due(String what, long got, long want) {
        if (got != want) {
            wrong++;
            System.out.println(what + ": answered " + got + ", due is " + want);
        }
    }

    static void due(String what, boolean got, boolean want) {
        due(what, got ? 1 : 0, want ? 1 : 0);
    }

    static void end() {
        if (wrong != 0) {
            System.out.println(wrong + " answers are not as due");
            System.exit(1);
        }
    }

    /** A new object whose program 0 has these instructions, each (op, a, b). */
    static FlowEngine with(int[]... instructions) {
        FlowEngine e = new FlowEngine();
        program(e, 0, instructions);
        return e;
    }

    static void program(FlowEngine e, int p, int[]... instructions) {
        for (int[] in : instructions) {
            if (e.add(p, in[0], in[1], in[2]) < 0) {
                throw new IllegalStateException("the test's own instruction was not added");
            }
        }
    }

    static int[] in(int op, int a, int b) {
        return new int[] {op, a, b};
    }

    /** The whole history of a workflow must be these entries, each (sort, number, value). */
    static void history(String what, FlowEngine e, int w, int[]... entries) {
        due(what + ", how many entries", e.flow(w, 2), entries.length);
        for (int k = 0; k < entries.length; k++) {
            for (int i = 0; i < 3; i++) {
                due(what + ", entry " + k + " what " + i, e.entry(w, k, i), entries[k][i]);
            }
        }
        due(what + ", no entry more", e.entry(w, entries.length, 0), NONE);
    }

    /** The workflows of the line, the first one first. */
    static void line(String what, FlowEngine e, int... workflows) {
        due(what + ", length of the line", e.line(-1), workflows.length);
        for (int k = 0; k < workflows.length; k++) {
            due(what + ", line " + k, e.line(k), workflows[k]);
        }
    }
}
