/** The edges of promises 1 to 5: a new object, add, change, start and remove. */
final class ProgramCallEdges extends Check {
    private static final int[] WRONG = {Integer.MIN_VALUE, -1, 6, 7, Integer.MAX_VALUE};

    // The greatest a and b of each op, or -1 where any int is fine.
    private static final int[] FIRSTS = {3, 3, 3, 14, 3, 3, 3, 3, 3, -1, 3};
    private static final int[] SECONDS = {-1, 3, 3, -1, 14, 3, -1, 3, 3, -1, -1};

    static void all() {
        newObject();
        add();
        addForgets();
        addRefused();
        notLookedAt();
        addFull();
        change();
        changeFalse();
        start();
        startRefused();
        startFull();
        remove();
        removeFalse();
    }

    private static void newObject() {
        says("`FlowEngine()`: No INSTRUCTIONS, no WORKFLOWS, an empty LINE.");
        FlowEngine e = new FlowEngine();
        for (int p = 0; p <= 2; p++) {
            due("instructions of program " + p, e.count(10 + p), 0);
            due("change", e.change(p, 0, SET, 0, 0), false);
        }
        due("workflows", e.count(1), 0);
        for (int w = 0; w <= 5; w++) {
            due("workflow " + w, e.flow(w, 0), 0);
            due("remove", e.remove(w), false);
        }
        line("empty", e);
        due("take", e.take(), NONE);
        for (int what = 0; what <= 9; what++) {
            due("count " + what, e.count(what), 0);
        }
    }

    private static void add() {
        says("`int add(int p, int op, int a, int b)`: PROGRAM p (0 to 2) gets an INSTRUCTION behind all others: "
                + "its number.");
        FlowEngine e = new FlowEngine();
        for (int i = 0; i < 14; i++) {
            for (int p = 0; p <= 2; p++) {
                due("number", e.add(p, SET, 1, 10 * p + i), i);
            }
        }
        for (int p = 0; p <= 2; p++) {
            e.start(p, 0);
            due("the last one stands behind all others", e.flow(p, 11), 10 * p + 13);
        }
    }

    private static void addForgets() {
        says("Also, all WORKFLOWS of it that have not ENDED are FORGOTTEN.");
        FlowEngine e = engine("AWAIT 0 0");
        put(e, 1, "AWAIT 0 0");
        for (int w = 0; w < 6; w++) {
            e.start(w == 3 ? 1 : 0, 0);
        }
        e.signal(2, 0, 0);
        e.forget(4);
        e.remove(1);
        due("add", e.add(0, SET, 0, 0), 1);
        int[] forgotten = {1, 0, 0, 0, 1, 1};
        for (int w = 0; w < 6; w++) {
            due("forgotten " + w, e.flow(w, 7), forgotten[w]);
        }
        due("the removed one's number", e.start(0, 0), 1);
        due("is of one that is remembered", e.flow(1, 7), 0);
        due("none was replayed", e.count(5), 0);
    }

    private static void addRefused() {
        says("REFUSED if p or op (0 to 10) is not as said, or a or b: VARIABLES, KINDS, SIGNALS 0 to 3, "
                + "PLACES 0 to 14");
        FlowEngine e = new FlowEngine();
        for (int p : new int[] {Integer.MIN_VALUE, -1, 3, Integer.MAX_VALUE}) {
            due("program " + p, e.add(p, SET, 0, 0), REFUSED);
        }
        for (int op : new int[] {Integer.MIN_VALUE, -1, 11, Integer.MAX_VALUE}) {
            due("op " + op, e.add(0, op, 0, 0), REFUSED);
        }
        for (int op = 0; op <= 10; op++) {
            for (int x : new int[] {Integer.MIN_VALUE, -1, 4, 15, Integer.MAX_VALUE}) {
                if (FIRSTS[op] >= 0 && (x < 0 || x > FIRSTS[op])) {
                    due("op " + op + " with a " + x, e.add(0, op, x, 0), REFUSED);
                }
                if (SECONDS[op] >= 0 && (x < 0 || x > SECONDS[op])) {
                    due("op " + op + " with b " + x, e.add(0, op, 0, x), REFUSED);
                }
            }
        }
        due("nothing was added", e.count(10), 0);
        for (int op = 0; op <= 10; op++) {
            due("the least of op " + op, e.add(0, op, 0, 0), op);
            due("the greatest of op " + op, e.add(1, op, Math.max(0, FIRSTS[op]), Math.max(0, SECONDS[op])), op);
        }
    }

    private static void notLookedAt() {
        says("(what is not named for an op is not looked at);");
        for (int x : new int[] {Integer.MIN_VALUE, -1, 4, 15, Integer.MAX_VALUE}) {
            FlowEngine e = new FlowEngine();
            due("SET with b " + x, e.add(0, SET, 0, x), 0);
            due("JUMP with b " + x, e.add(0, JUMP, 2, x), 1);
            due("SLEEP with b " + x, e.add(0, SLEEP, 3, x), 2);
            due("END with b " + x, e.add(0, END, 0, x), 3);
            due("FAIL with a " + x, e.add(0, FAIL, x, 0), 4);
            due("FAIL with b " + x, e.add(0, FAIL, 0, x), 5);
            e.start(0, 0);
            due("they do what they do", e.flow(0, 5), x);
        }
    }

    private static void addFull() {
        says("FULL if there are 14.");
        FlowEngine e = engine("AWAIT 0 0");
        e.start(0, 0);
        for (int i = 1; i < 14; i++) {
            due("room for " + i, e.add(0, SET, 0, 1), i);
        }
        e.signal(0, 1, 0);
        due("a 15th", e.add(0, SET, 0, 2), FULL);
        due("14", e.count(10), 14);
        due("it forgets none", e.flow(0, 7), 0);
        due("room in another", e.add(1, SET, 0, 0), 0);
    }

    private static void change() {
        says("`boolean change(int p, int i, int op, int a, int b)`: INSTRUCTION i of PROGRAM p is another one: true, "
                + "and all WORKFLOWS of it that have not ENDED are FORGOTTEN;");
        FlowEngine e = new FlowEngine();
        for (int p = 0; p <= 2; p++) {
            for (int i = 0; i < 14; i++) {
                e.add(p, SET, 0, i);
            }
            due("the first", e.change(p, 0, JUMP, 13, 99), true);
            due("the last", e.change(p, 13, AWAIT, 3, 3), true);
            due("14 still", e.count(10 + p), 14);
            e.start(p, 7);
            due("it is at the last one", e.flow(p, 3), 13);
            due("nothing between was done", e.flow(p, 10), 7);
        }
        e.start(1, 7);
        e.signal(3, 3, 0);
        due("one has ended", e.flow(3, 0), DONE);
        e.start(1, 7);
        due("to the same", e.change(1, 13, AWAIT, 3, 3), true);
        int[] forgotten = {0, 1, 0, 0, 1, 0};
        for (int w = 0; w < 6; w++) {
            due("forgotten " + w, e.flow(w, 7), forgotten[w]);
        }
        due("one that is forgotten already", e.change(1, 13, AWAIT, 3, 2), true);
        due("is so still", e.flow(1, 7), 1);
    }

    private static void changeFalse() {
        says("false if there is no such one, or a number is not as said.");
        FlowEngine e = engine("SET 0 1", "AWAIT 0 0");
        e.start(0, 0);
        for (int i : new int[] {Integer.MIN_VALUE, -1, 2, 13, 14, Integer.MAX_VALUE}) {
            due("instruction " + i, e.change(0, i, SET, 0, 0), false);
        }
        due("instruction 0 of an empty program", e.change(1, 0, SET, 0, 0), false);
        for (int p : new int[] {Integer.MIN_VALUE, -1, 3, Integer.MAX_VALUE}) {
            due("program " + p, e.change(p, 0, SET, 0, 0), false);
        }
        for (int op : new int[] {Integer.MIN_VALUE, -1, 11, Integer.MAX_VALUE}) {
            due("op " + op, e.change(0, 0, op, 0, 0), false);
        }
        for (int op = 0; op <= 10; op++) {
            for (int x : new int[] {Integer.MIN_VALUE, -1, 4, 15, Integer.MAX_VALUE}) {
                if (FIRSTS[op] >= 0 && (x < 0 || x > FIRSTS[op])) {
                    due("op " + op + " with a " + x, e.change(0, 0, op, x, 0), false);
                }
                if (SECONDS[op] >= 0 && (x < 0 || x > SECONDS[op])) {
                    due("op " + op + " with b " + x, e.change(0, 0, op, 0, x), false);
                }
            }
        }
        due("none is forgotten", e.flow(0, 7), 0);
        due("two instructions", e.count(10), 2);
        e.start(0, 0);
        due("they are the old ones", e.flow(1, 10), 1);
        for (int op = 0; op <= 10; op++) {
            due("the least of op " + op, e.change(0, 0, op, 0, 0), true);
            due("the greatest", e.change(0, 0, op, Math.max(0, FIRSTS[op]), Math.max(0, SECONDS[op])), true);
        }
    }

    private static void start() {
        says("`int start(int p, int v)`: A WORKFLOW of PROGRAM p (0 to 2) starts, with v in VARIABLE 0, and goes on: "
                + "its number, the least one that is not there.");
        FlowEngine e = engine("AWAIT 0 0");
        put(e, 1, "AWAIT 0 0");
        put(e, 2, "AWAIT 0 0");
        for (int w = 0; w < 6; w++) {
            due("start", e.start(w % 3, 10 * w), w);
            due("its program", e.flow(w, 1), w % 3);
            due("v", e.flow(w, 10), 10 * w);
            due("it has gone on", e.flow(w, 0), AWAITS);
        }
        e.remove(5);
        e.remove(0);
        e.remove(3);
        due("the least", e.start(0, Integer.MIN_VALUE), 0);
        due("v of the least int", e.flow(0, 10), Integer.MIN_VALUE);
        due("the next", e.start(0, Integer.MAX_VALUE), 3);
        due("v of the greatest int", e.flow(3, 10), Integer.MAX_VALUE);
        due("the last", e.start(0, 0), 5);
        FlowEngine f = new FlowEngine();
        due("one that ends at once", f.start(0, 0), 0);
        due("is there still", f.start(0, 0), 1);
    }

    private static void startRefused() {
        says("A number is not as said, or something that must be there is not.");
        FlowEngine e = new FlowEngine();
        for (int p : new int[] {Integer.MIN_VALUE, -1, 3, Integer.MAX_VALUE}) {
            due("program " + p, e.start(p, 0), REFUSED);
        }
        due("none is there", e.count(1), 0);
        due("program 2", e.start(2, 0), 0);
    }

    private static void startFull() {
        says("FULL if all 6 are there.");
        FlowEngine e = new FlowEngine();
        for (int w = 0; w < 6; w++) {
            due("start", e.start(0, 0), w);
        }
        due("a seventh, though all have ended", e.start(0, 0), FULL);
        due("done so far", e.count(7), 6);
        e.remove(2);
        due("with one removed", e.start(0, 0), 2);
        due("full again", e.start(0, 0), FULL);
    }

    private static void remove() {
        says("`boolean remove(int w)`: WORKFLOW w is not there any more, with its HISTORY, the SIGNALS kept for it, "
                + "and its TASKS: true;");
        for (int w : new int[] {0, 5}) {
            FlowEngine e = engine("CALL 0 0", "AWAIT 0 1");
            for (int i = 0; i < 6; i++) {
                e.start(0, i);
            }
            e.signal(w, 0, 9);
            due("remove " + w, e.remove(w), true);
            due("not there", e.flow(w, 0), 0);
            due("no history", e.entry(w, 0, 0), NONE);
            due("its task is gone", e.line(-1), 5);
            due("start", e.start(0, 3), w);
            wrote("a new history", e, w, START, 0, 3, WANTED, 0, 3);
            due("no signal is kept", e.flow(w, 6), 0);
            due("the new task is the last", e.line(5), w);
        }
        for (String last : new String[] {"END 0", "FAIL", "JUMP 0"}) {
            FlowEngine f = engine(last);
            f.start(0, 0);
            due("one that has ended", f.remove(0), true);
            due("not there", f.count(1), 0);
        }
        FlowEngine g = engine("SLEEP 0");
        g.start(0, 2);
        g.forget(0);
        due("one that is forgotten and sleeps", g.remove(0), true);
        g.tick(2);
        due("is not replayed", g.count(5), 0);
    }

    private static void removeFalse() {
        says("false if it is not there.");
        FlowEngine e = engine("AWAIT 0 0");
        for (int w = 0; w <= 5; w++) {
            due("not there yet", e.remove(w), false);
        }
        e.start(0, 0);
        for (int w : WRONG) {
            due("workflow " + w, e.remove(w), false);
        }
        due("remove", e.remove(0), true);
        due("not there any more", e.remove(0), false);
    }
}
