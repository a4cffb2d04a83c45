/** What the tests share: names for ops and sorts, and a tally of wrong answers. */
class Check {
    private static final String[] OPS = {
        "SET", "ADD", "LESS", "JUMP", "ZERO", "CALL", "SLEEP", "AWAIT", "UNDO", "FAIL", "END"};
    static final int SET = 0, ADD = 1, LESS = 2, JUMP = 3, ZERO = 4, CALL = 5;
    static final int SLEEP = 6, AWAIT = 7, UNDO = 8, FAIL = 9, END = 10;
    static final int WAITS = 1, SLEEPS = 2, AWAITS = 3, UNDOES = 4, DONE = 5, FAILED = 6, BROKEN = 7;
    static final int START = 1, WANTED = 2, RESULT = 3, LOST = 4, SLEPT = 5, WOKE = 6, SIGNAL = 7;
    static final int REFUSED = -1, NONE = -2, FULL = -3;

    private static int wrong = 0;
    private static String sentence = "";

    Check() {
    }

    /** From here on the document's sentence is tested that has these words. */
    static void says(String words) {
        sentence = words;
        due("the document says it in one place", Document.quote(words), true);
    }

    static void due(String what, long got, long want) {
        if (got != want) {
            wrong++;
            System.out.println(what + ": answered " + got + ", due is " + want);
            if (!sentence.isEmpty()) {
                System.out.println("    where the document says: " + sentence);
            }
        }
    }

    static void due(String what, boolean got, boolean want) {
        due(what, got ? 1 : 0, want ? 1 : 0);
    }

    static void end() {
        if (wrong != 0) {
            System.out.println(wrong + " answers are not as due");
            System.exit(1);
        }
    }

    /** A new object whose program 0 has these instructions, each (op, a, b). */
    static FlowEngine with(int[]... instructions) {
        FlowEngine e = new FlowEngine();
        program(e, 0, instructions);
        return e;
    }

    static void program(FlowEngine e, int p, int[]... instructions) {
        for (int[] in : instructions) {
            if (e.add(p, in[0], in[1], in[2]) < 0) {
                throw new IllegalStateException("the test's own instruction was not added");
            }
        }
    }

    static int[] in(int op, int a, int b) {
        return new int[] {op, a, b};
    }

    /** A new object whose program 0 has these instructions, each like "SET 1 -5". */
    static FlowEngine engine(String... instructions) {
        FlowEngine e = new FlowEngine();
        put(e, 0, instructions);
        return e;
    }

    static void put(FlowEngine e, int p, String... instructions) {
        for (String words : instructions) {
            program(e, p, read(words));
        }
    }

    static void change(FlowEngine e, int p, int i, String words) {
        int[] in = read(words);
        due("change to " + words, e.change(p, i, in[0], in[1], in[2]), true);
    }

    private static int[] read(String words) {
        String[] parts = words.split(" ");
        int op = 0;
        while (!OPS[op].equals(parts[0])) {
            op++;
        }
        int a = parts.length > 1 ? Integer.parseInt(parts[1]) : 0;
        int b = parts.length > 2 ? Integer.parseInt(parts[2]) : 0;
        return in(op, a, b);
    }

    /** The only task that may be taken is w's, and is answered with v: the state behind that. */
    static int answerGood(FlowEngine e, int w, int v) {
        due("take", e.take(), w);
        return e.answer(w, true, v);
    }

    /** The only task is w's, and goes wrong until it is out for the third time. */
    static void wrongTwice(FlowEngine e, int w) {
        for (int pause = 2; pause <= 4; pause += 2) {
            due("take", e.take(), w);
            e.answer(w, false, 0);
            e.tick(pause);
        }
        due("take", e.take(), w);
    }

    /** The only task is w's, and goes wrong three times: the state behind that. */
    static int lose(FlowEngine e, int w) {
        wrongTwice(e, w);
        return e.answer(w, false, 0);
    }

    /** The whole history of a workflow must be these entries, each (sort, number, value). */
    static void history(String what, FlowEngine e, int w, int[]... entries) {
        due(what + ", how many entries", e.flow(w, 2), entries.length);
        for (int k = 0; k < entries.length; k++) {
            for (int i = 0; i < 3; i++) {
                due(what + ", entry " + k + " what " + i, e.entry(w, k, i), entries[k][i]);
            }
        }
        due(what + ", no entry more", e.entry(w, entries.length, 0), NONE);
    }

    /** The same with three numbers an entry. */
    static void wrote(String what, FlowEngine e, int w, int... numbers) {
        int[][] entries = new int[numbers.length / 3][];
        for (int k = 0; k < entries.length; k++) {
            entries[k] = in(numbers[3 * k], numbers[3 * k + 1], numbers[3 * k + 2]);
        }
        history(what, e, w, entries);
    }

    /** The workflows of the line, the first one first. */
    static void line(String what, FlowEngine e, int... workflows) {
        due(what + ", length of the line", e.line(-1), workflows.length);
        for (int k = 0; k < workflows.length; k++) {
            due(what + ", line " + k, e.line(k), workflows[k]);
        }
    }
}
