/** The edges of what a call answers when it does nothing, and of how many calls an object is used for. */
final class AnswerKindEdges extends Check {
    private static final int RUNS = 300;
    private static final int CALLS = 250;

    static void all() {
        calls512();
        refused();
        none();
        full();
        refusedFirst();
        changesNothing();
    }

    private static void calls512() {
        says("An object is used for at most 512 calls after it has been made; what later calls answer is free.");
        FlowEngine e = new FlowEngine();
        for (int i = 1; i <= 511; i++) {
            due("tick", e.tick(20), 20 * i);
        }
        due("the 512th call", e.count(0), 10220);
        FlowEngine f = engine("SET 0 1");
        for (int i = 1; i <= 255; i++) {
            due("start", f.start(0, i), 0);
            due("remove", f.remove(0), true);
        }
        due("the 512th call", f.count(7), 255);
        FlowEngine g = engine("CALL 0 0");
        for (int i = 0; i < 127; i++) {
            g.start(0, 0);
            due("take", g.take(), 0);
            g.answer(0, true, i);
            due("remove", g.remove(0), true);
        }
        g.start(0, 0);
        g.take();
        due("the 512th call", g.answer(0, true, 8), DONE);
    }

    private static void refused() {
        says("The constants: `REFUSED = -1`: A number is not as said, or something that must be there is not.");
        due("constant", FlowEngine.REFUSED, -1);
        FlowEngine e = engine("AWAIT 0 0");
        e.start(0, 0);
        due("a number is not as said", e.signal(0, 4, 0), -1);
        due("a workflow is not there", e.signal(1, 0, 0), -1);
        due("a workflow is not there", e.answer(1, true, 0), -1);
    }

    private static void none() {
        says("`NONE = -2`: There is no such thing, or it is not as it must be.");
        due("constant", FlowEngine.NONE, -2);
        FlowEngine e = engine("END 0");
        due("no task", e.take(), -2);
        e.start(0, 0);
        due("it has ended", e.signal(0, 0, 0), -2);
        due("no such entry", e.entry(0, 1, 0), -2);
    }

    private static void full() {
        says("`FULL = -3`: There is no room.");
        due("constant", FlowEngine.FULL, -3);
        FlowEngine e = engine("AWAIT 0 0");
        for (int i = 0; i < 6; i++) {
            e.start(0, 0);
        }
        due("for a workflow", e.start(0, 0), -3);
        for (int i = 0; i < 13; i++) {
            e.add(0, FAIL, 0, 0);
        }
        due("for an instruction", e.add(0, FAIL, 0, 0), -3);
        for (int i = 0; i < 4; i++) {
            e.signal(0, 1, 0);
        }
        due("for a signal", e.signal(0, 1, 0), -3);
    }

    private static void refusedFirst() {
        says("In each call REFUSED is tested first.");
        FlowEngine e = engine("AWAIT 0 0");
        for (int i = 0; i < 13; i++) {
            e.add(0, SET, 0, 0);
        }
        due("add: full, and op 11", e.add(0, 11, 0, 0), REFUSED);
        due("add: full, and variable 4", e.add(0, SET, 4, 0), REFUSED);
        due("add: full, and b 4", e.add(0, ADD, 0, 4), REFUSED);
        for (int i = 0; i < 6; i++) {
            e.start(0, 0);
        }
        due("start: full, and program 3", e.start(3, 0), REFUSED);
        due("start: full, and program -1", e.start(-1, 0), REFUSED);
        e.signal(0, 0, 0);
        due("signal: it has ended, and signal 4", e.signal(0, 4, 0), REFUSED);
        for (int i = 0; i < 4; i++) {
            e.signal(1, 1, 0);
        }
        due("signal: full, and signal -1", e.signal(1, -1, 0), REFUSED);
        due("entry: no such entry, and what 3", e.entry(0, 20, 3), REFUSED);
        due("entry: no such entry, and workflow 6", e.entry(6, 20, 0), REFUSED);
        e.remove(5);
        due("entry: not there, and what -1", e.entry(5, 0, -1), REFUSED);
        due("flow: not there, and what 14", e.flow(5, 14), REFUSED);
        due("answer: not there, so no task of it is out", e.answer(5, true, 0), REFUSED);
    }

    /** Two engines: one gets every call, the other only those to which the first did not answer no. */
    private static void changesNothing() {
        says("A call that answers REFUSED, NONE or FULL, or false, changes nothing.");
        // By call (add, change, start, remove, signal, take, answer, tick, forget): how often each no was answered.
        int[][] noes = new int[9][4];
        for (int run = 0; run < RUNS; run++) {
            oneRun(run, noes);
        }
        int[][] possible = {{REFUSED, FULL}, {0}, {REFUSED, FULL}, {0}, {REFUSED, NONE, FULL}, {NONE},
            {REFUSED, NONE}, {REFUSED}, {0}};
        for (int call = 0; call < possible.length; call++) {
            for (int no : possible[call]) {
                due("call " + call + " answered " + no + " now and then", noes[call][-no] > 20, true);
            }
        }
    }

    private static void oneRun(int run, int[][] noes) {
        RandomCalls r = new RandomCalls(run);
        FlowEngine e = new FlowEngine();
        FlowEngine f = new FlowEngine();
        for (int i = 0; i < CALLS; i++) {
            int[] call = i < 30 ? new int[] {0, 0, 0, 0, 0, 0} : new int[] {r.below(9), 0, 0, 0, 0, 0};
            arguments(r, call);
            int answer = made(e, call);
            String what = "run " + run + ", call " + i;
            boolean no = call[0] == 1 || call[0] == 3 || call[0] == 8 ? answer == 0 : answer < 0;
            if (no) {
                noes[call[0]][-answer]++;
            } else {
                due(what, made(f, call), answer);
            }
            same(what, e, f);
        }
    }

    private static void arguments(RandomCalls r, int[] call) {
        int[] in = r.instruction();
        call[1] = call[0] <= 2 ? r.number(3) : call[0] == 7 ? (r.once(4) ? 0 : 1 + r.below(4)) : r.number(6);
        if (call[0] <= 1) {
            call[2] = r.number(14);
            System.arraycopy(in, 0, call, 3, 3);
        } else {
            call[2] = call[0] == 4 ? r.number(4) : r.value();
            call[3] = r.value();
        }
    }

    /** Makes a call, and answers its answer, 1 or 0 for a boolean. */
    private static int made(FlowEngine e, int[] c) {
        return switch (c[0]) {
            case 0 -> e.add(c[1], c[3], c[4], c[5]);
            case 1 -> e.change(c[1], c[2], c[3], c[4], c[5]) ? 1 : 0;
            case 2 -> e.start(c[1], c[2]);
            case 3 -> e.remove(c[1]) ? 1 : 0;
            case 4 -> e.signal(c[1], c[2], c[3]);
            case 5 -> e.take();
            case 6 -> e.answer(c[1], c[2] > 0, c[3]);
            case 7 -> e.tick(c[1]);
            default -> e.forget(c[1]) ? 1 : 0;
        };
    }

    private static void same(String what, FlowEngine e, FlowEngine f) {
        for (int c = 0; c <= 12; c++) {
            due(what + ", count " + c, e.count(c), f.count(c));
        }
        for (int k = -1; k < 6; k++) {
            due(what + ", line " + k, e.line(k), f.line(k));
        }
        for (int w = 0; w < 6; w++) {
            for (int i = 0; i <= 13; i++) {
                due(what + ", flow " + w + " " + i, e.flow(w, i), f.flow(w, i));
            }
            for (int k = 0; k <= f.flow(w, 2); k++) {
                for (int i = 0; i <= 2; i++) {
                    due(what + ", entry " + w + " " + k + " " + i, e.entry(w, k, i), f.entry(w, k, i));
                }
            }
        }
    }
}
