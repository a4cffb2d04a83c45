/** The edges of promises 11 to 14: flow, entry, line and count. */
final class AskingEdges extends Check {
    private static final int LEAST = Integer.MIN_VALUE;
    private static final int MOST = Integer.MAX_VALUE;

    static void all() {
        flowState();
        flowProgram();
        flowPlace();
        flowNoted();
        flowOutcome();
        flowKept();
        flowForgotten();
        flowTries();
        flowOut();
        flowVariables();
        flowRefused();
        flowNotThere();
        entry();
        entryRefused();
        entryNone();
        line();
        lineHowMany();
        lineNone();
        countTime();
        countWorkflows();
        countDone();
        countBroken();
        countReplayed();
        countReplays();
        countLost();
        countEnded();
        countInstructions();
        countRefused();
    }

    private static void flowState() {
        says("`int flow(int w, int what)`: Of WORKFLOW w what 0: its STATE (0 if it is not there; that which it had, "
                + "if it is FORGOTTEN);");
        FlowEngine e = engine("AWAIT 0 0");
        for (int w = 0; w <= 5; w++) {
            due("not there", e.flow(w, 0), 0);
        }
        e.start(0, 0);
        change(e, 0, 0, "END 0");
        due("that which it had", e.flow(0, 0), AWAITS);
        e.tick(20);
        due("that which it had", e.flow(0, 0), AWAITS);
        e.signal(0, 0, 0);
        due("done", e.flow(0, 0), DONE);
        e.remove(0);
        due("removed", e.flow(0, 0), 0);
    }

    private static void flowProgram() {
        says("1: its PROGRAM; 2: how many ENTRIES;");
        FlowEngine e = new FlowEngine();
        put(e, 2, "AWAIT 0 0", "JUMP 0");
        e.start(2, 0);
        due("program 2", e.flow(0, 1), 2);
        for (int i = 1; i <= 20; i++) {
            due("entries", e.flow(0, 2), i);
            if (i % 3 == 0) {
                e.forget(0);
                due("entries of one that is forgotten", e.flow(0, 2), i);
                due("program of one that is forgotten", e.flow(0, 1), 2);
            }
            e.signal(0, 0, 0);
        }
        due("20 of one that is broken", e.flow(0, 2), 20);
        due("program of one that is broken", e.flow(0, 1), 2);
        e.start(0, 0);
        due("program 0", e.flow(1, 1), 0);
    }

    private static void flowPlace() {
        says("3: the PLACE of the INSTRUCTION at which it is (NONE if it is FORGOTTEN or has ENDED; when it UNDOES, "
                + "that at which it FAILED);");
        FlowEngine e = engine("AWAIT 0 0", "JUMP 13", "SET 0 0", "SET 0 0", "SET 0 0", "SET 0 0", "SET 0 0", "SET 0 0",
                "SET 0 0", "SET 0 0", "SET 0 0", "SET 0 0", "UNDO 0 0", "AWAIT 0 0");
        e.start(0, 0);
        due("place 0", e.flow(0, 3), 0);
        e.signal(0, 0, 0);
        due("place 13", e.flow(0, 3), 13);
        e.forget(0);
        due("forgotten", e.flow(0, 3), NONE);
        e.signal(0, 0, 0);
        due("done", e.flow(0, 3), NONE);
        FlowEngine f = engine("UNDO 0 0", "UNDO 1 0", "CALL 0 0", "SET 1 1", "FAIL");
        f.start(0, 0);
        lose(f, 0);
        due("failed at CALL", f.flow(0, 3), 2);
        answerGood(f, 0, 0);
        due("undoes still", f.flow(0, 3), 2);
        f.forget(0);
        due("forgotten", f.flow(0, 3), NONE);
        answerGood(f, 0, 0);
        due("failed", f.flow(0, 3), NONE);
        f.start(0, 0);
        answerGood(f, 1, 0);
        due("failed at FAIL", f.flow(1, 3), 4);
        FlowEngine g = engine("JUMP 0");
        g.start(0, 0);
        due("broken", g.flow(0, 3), NONE);
    }

    private static void flowNoted() {
        says("4: how many ACTIVITIES are noted by UNDO and not WANTED yet (NONE likewise);");
        FlowEngine e = engine("AWAIT 0 0", "UNDO 0 0", "AWAIT 0 0", "UNDO 0 0", "UNDO 0 0", "UNDO 0 0", "UNDO 0 0",
                "UNDO 0 0", "AWAIT 0 0", "FAIL");
        e.start(0, 0);
        int[] noted = {0, 1, 6, 5};
        for (int n : noted) {
            due("noted", e.flow(0, 4), n);
            e.forget(0);
            due("forgotten", e.flow(0, 4), NONE);
            e.signal(0, 0, 0);
        }
        for (int n = 5; n >= 0; n--) {
            due("noted and not wanted yet", e.flow(0, 4), n);
            answerGood(e, 0, 0);
        }
        due("failed", e.flow(0, 4), NONE);
        FlowEngine f = engine("UNDO 0 0", "END 0");
        f.start(0, 0);
        due("done", f.flow(0, 4), NONE);
        FlowEngine g = engine("UNDO 0 0", "JUMP 1");
        g.start(0, 0);
        due("broken", g.flow(0, 4), NONE);
    }

    private static void flowOutcome() {
        says("5: its OUTCOME (0 if it is not DONE);");
        for (int v : new int[] {LEAST, -1, 0, 1, MOST}) {
            FlowEngine e = engine("AWAIT 0 1", "ZERO 1 4", "ADD 1 1", "FAIL", "END 0");
            put(e, 1, "JUMP 0");
            e.start(0, v);
            e.start(0, v);
            e.start(1, v);
            due("awaits", e.flow(0, 5), 0);
            e.forget(0);
            due("forgotten", e.flow(0, 5), 0);
            e.signal(0, 0, 0);
            e.signal(1, 0, 1);
            due("done", e.flow(0, 5), v);
            due("failed", e.flow(1, 5), 0);
            due("broken", e.flow(2, 5), 0);
            e.remove(0);
            e.start(1, 7);
            due("broken in the place of one that was done", e.flow(0, 5), 0);
        }
        FlowEngine f = engine("CALL 0 0", "AWAIT 0 0");
        f.start(0, 4);
        change(f, 0, 0, "END 0");
        f.signal(0, 0, 0);
        due("broken at END with an entry left", f.flow(0, 5), 0);
    }

    private static void flowKept() {
        says("6: how many SIGNALS are kept for it;");
        FlowEngine e = engine("CALL 0 0", "AWAIT 0 0", "END 0");
        e.start(0, 0);
        for (int i = 0; i < 4; i++) {
            due("kept", e.flow(0, 6), i);
            e.signal(0, i % 2, i);
        }
        due("four", e.flow(0, 6), 4);
        due("a fifth", e.signal(0, 0, 0), FULL);
        due("four", e.flow(0, 6), 4);
        e.forget(0);
        due("four of one that is forgotten", e.flow(0, 6), 4);
        answerGood(e, 0, 0);
        due("one was taken, three are kept when it has ended", e.flow(0, 6), 3);
    }

    private static void flowForgotten() {
        says("7: 1 if it is FORGOTTEN, else 0;");
        FlowEngine e = engine("AWAIT 0 0");
        due("not there", e.flow(0, 7), 0);
        e.start(0, 0);
        due("remembered", e.flow(0, 7), 0);
        e.forget(0);
        due("forgotten", e.flow(0, 7), 1);
        e.remove(0);
        due("removed", e.flow(0, 7), 0);
        e.start(0, 0);
        due("a new one", e.flow(0, 7), 0);
        change(e, 0, 0, "JUMP 0");
        due("forgotten by a change", e.flow(0, 7), 1);
        e.signal(0, 0, 0);
        due("broken by the replay", e.flow(0, 7), 0);
    }

    private static void flowTries() {
        says("8: TRIES of its TASK (0 if it has none);");
        FlowEngine e = engine("UNDO 0 0", "CALL 0 0");
        e.start(0, 0);
        int[] pauses = {2, 4};
        for (int tries = 0; tries < 3; tries++) {
            due("in the line", e.flow(0, 8), tries);
            e.take();
            due("out", e.flow(0, 8), tries + 1);
            e.forget(0);
            due("of one that is forgotten", e.flow(0, 8), tries + 1);
            e.answer(0, false, 0);
            if (tries < 2) {
                e.tick(pauses[tries]);
            }
        }
        due("of the next task", e.flow(0, 8), 0);
        answerGood(e, 0, 0);
        due("none when it has ended", e.flow(0, 8), 0);
        FlowEngine f = engine("CALL 0 0", "AWAIT 0 0");
        f.start(0, 0);
        answerGood(f, 0, 0);
        due("none when it awaits", f.flow(0, 8), 0);
    }

    private static void flowOut() {
        says("9: 1 if that is OUT, else 0;");
        FlowEngine e = engine("CALL 0 0", "CALL 0 0");
        e.start(0, 0);
        due("in the line", e.flow(0, 9), 0);
        e.take();
        due("out", e.flow(0, 9), 1);
        e.forget(0);
        due("out, of one that is forgotten", e.flow(0, 9), 1);
        e.answer(0, false, 0);
        due("back", e.flow(0, 9), 0);
        e.tick(2);
        e.take();
        e.tick(5);
        due("too late", e.flow(0, 9), 0);
        e.tick(4);
        answerGood(e, 0, 0);
        due("the next one", e.flow(0, 9), 0);
        answerGood(e, 0, 0);
        due("ended", e.flow(0, 9), 0);
    }

    private static void flowVariables() {
        says("10 + v: VARIABLE v (0 if it is FORGOTTEN; when it has ENDED, as it was then).");
        String[] last = {"END 0", "FAIL", "JUMP 6"};
        int[] values = {LEAST, -1, 1, MOST};
        for (String words : last) {
            FlowEngine e = engine("SET 0 " + LEAST, "SET 1 -1", "SET 2 1", "SET 3 " + MOST, "AWAIT 0 2", "SET 2 1",
                    words);
            e.start(0, 5);
            variables(e, 0, values);
            e.forget(0);
            variables(e, 0, new int[4]);
            due("signal", e.signal(0, 0, 8), 1);
            variables(e, 0, values);
        }
        FlowEngine f = engine("SET 3 4", "CALL 0 0", "SET 3 5");
        f.start(0, 5);
        change(f, 0, 1, "JUMP 2");
        f.signal(0, 0, 0);
        due("broken in a replay", f.flow(0, 0), BROKEN);
        variables(f, 0, new int[] {5, 0, 0, 5});
    }

    private static void variables(FlowEngine e, int w, int[] values) {
        for (int v = 0; v <= 3; v++) {
            due("variable " + v, e.flow(w, 10 + v), values[v]);
        }
    }

    private static void flowRefused() {
        says("REFUSED for another what or w not 0 to 5;");
        FlowEngine e = engine("AWAIT 0 0");
        e.start(0, 0);
        for (int what : new int[] {LEAST, -1, 14, MOST}) {
            due("what " + what, e.flow(0, what), REFUSED);
            due("what " + what + " of one that is not there", e.flow(1, what), REFUSED);
        }
        for (int w : new int[] {LEAST, -1, 6, MOST}) {
            for (int what = 0; what <= 13; what++) {
                due("workflow " + w, e.flow(w, what), REFUSED);
            }
        }
    }

    private static void flowNotThere() {
        says("0 for what 1 to 13 if it is not there.");
        FlowEngine e = new FlowEngine();
        put(e, 2, "SET 1 1", "SET 2 2", "SET 3 3", "UNDO 0 0", "AWAIT 1 0", "CALL 0 0");
        for (int w = 0; w <= 5; w++) {
            e.start(2, 5);
            e.signal(w, 1, 4);
            e.signal(w, 0, 4);
            e.take();
        }
        e.forget(3);
        for (int w = 0; w <= 5; w++) {
            e.remove(w);
        }
        for (int w = 0; w <= 5; w++) {
            for (int what = 1; what <= 13; what++) {
                due("flow " + w + " " + what, e.flow(w, what), 0);
                due("flow of a new object", new FlowEngine().flow(w, what), 0);
            }
        }
    }

    private static void entry() {
        says("`int entry(int w, int k, int what)`: Of ENTRY k (0 the first) of the HISTORY of WORKFLOW w what 0: its "
                + "sort, 1: its number, 2: its value.");
        FlowEngine e = new FlowEngine();
        put(e, 1, "AWAIT 3 0", "JUMP 0");
        for (int w = 0; w <= 5; w++) {
            e.start(1, LEAST + w);
        }
        for (int i = 1; i <= 19; i++) {
            e.signal(5, 3, MOST - i);
        }
        e.forget(5);
        for (int w : new int[] {0, 5}) {
            due("sort of the first", e.entry(w, 0, 0), START);
            due("number of the first", e.entry(w, 0, 1), 1);
            due("value of the first", e.entry(w, 0, 2), LEAST + w);
        }
        due("sort of the 20th", e.entry(5, 19, 0), SIGNAL);
        due("number of the 20th", e.entry(5, 19, 1), 3);
        due("value of the 20th", e.entry(5, 19, 2), MOST - 19);
    }

    private static void entryRefused() {
        says("REFUSED if w or what is not as said;");
        FlowEngine e = engine("AWAIT 0 0");
        e.start(0, 0);
        for (int w : new int[] {LEAST, -1, 6, MOST}) {
            due("workflow " + w, e.entry(w, 0, 0), REFUSED);
        }
        for (int what : new int[] {LEAST, -1, 3, MOST}) {
            due("what " + what, e.entry(0, 0, what), REFUSED);
            due("what " + what + " of one that is not there", e.entry(1, 0, what), REFUSED);
            due("what " + what + " of no such entry", e.entry(0, 9, what), REFUSED);
        }
    }

    private static void entryNone() {
        says("NONE if there is no such ENTRY or WORKFLOW.");
        FlowEngine e = engine("AWAIT 0 0");
        e.start(0, 0);
        for (int k : new int[] {LEAST, -1, 1, 19, 20, MOST}) {
            due("entry " + k, e.entry(0, k, 0), NONE);
        }
        for (int w = 1; w <= 5; w++) {
            due("workflow " + w, e.entry(w, 0, 0), NONE);
        }
        e.remove(0);
        due("removed", e.entry(0, 0, 0), NONE);
    }

    private static void line() {
        says("`int line(int k)`: The WORKFLOW of the k-th TASK of the LINE (0 the first);");
        FlowEngine e = engine("AWAIT 0 0", "CALL 0 0");
        for (int w = 0; w <= 5; w++) {
            e.start(0, 0);
        }
        int[] order = {4, 0, 5, 2, 1, 3};
        for (int w : order) {
            e.signal(w, 0, 0);
        }
        for (int k = 0; k <= 5; k++) {
            due("line " + k, e.line(k), order[k]);
        }
        e.take();
        e.answer(4, false, 0);
        due("one before its time is in it, at its end", e.line(5), 4);
        due("the first", e.line(0), 0);
    }

    private static void lineHowMany() {
        says("with k = -1 how many are in it;");
        FlowEngine e = engine("CALL 0 0");
        for (int n = 0; n < 6; n++) {
            due("in it", e.line(-1), n);
            e.start(0, 0);
        }
        for (int n = 6; n > 0; n--) {
            due("in it", e.line(-1), n);
            e.take();
        }
        due("all are out", e.line(-1), 0);
    }

    private static void lineNone() {
        says("NONE for another k.");
        FlowEngine e = engine("CALL 0 0");
        due("k 0 of an empty line", e.line(0), NONE);
        e.start(0, 0);
        for (int k : new int[] {LEAST, -2, 1, 5, 6, MOST}) {
            due("k " + k, e.line(k), NONE);
        }
        for (int w = 1; w <= 5; w++) {
            e.start(0, 0);
        }
        due("k 6 of six", e.line(6), NONE);
        due("k -2 of six", e.line(-2), NONE);
    }

    private static void countTime() {
        says("`int count(int what)`: What 0: TIME;");
        FlowEngine e = new FlowEngine();
        due("at first", e.count(0), 0);
        e.tick(20);
        due("behind 20", e.count(0), 20);
        e.tick(21);
        due("a refused tick", e.count(0), 20);
    }

    private static void countWorkflows() {
        says("1: WORKFLOWS that are there; 2: how many of these have not ENDED;");
        FlowEngine e = engine("AWAIT 0 0", "ZERO 0 3", "FAIL", "END 0");
        put(e, 1, "JUMP 0");
        for (int w = 0; w <= 5; w++) {
            due("there", e.count(1), w);
            due("not ended", e.count(2), w);
            e.start(0, 0);
        }
        e.forget(5);
        due("all six", e.count(1), 6);
        due("one that is forgotten has not ended", e.count(2), 6);
        e.signal(0, 0, 0);
        e.signal(1, 0, 1);
        e.remove(2);
        e.start(1, 0);
        due("six with one done, one failed, one broken", e.count(1), 6);
        due("three", e.count(2), 3);
        e.remove(0);
        e.remove(5);
        due("one ended and one open removed", e.count(1), 4);
        due("two", e.count(2), 2);
    }

    private static void countDone() {
        says("3: INSTRUCTIONS done so far, without REPLAYED ones");
        FlowEngine e = engine("SET 1 1", "CALL 0 0", "SET 1 2", "AWAIT 0 0", "END 0");
        e.start(0, 0);
        due("SET and CALL", e.count(3), 2);
        e.take();
        e.forget(0);
        e.answer(0, true, 0);
        due("SET and AWAIT", e.count(3), 4);
        due("replayed", e.count(4), 2);
        e.signal(0, 0, 0);
        due("END", e.count(3), 5);
        e.remove(0);
        due("so far", e.count(3), 5);
    }

    private static void countBroken() {
        says("(one by which a WORKFLOW is BROKEN counts here or there, but for the 61st);");
        FlowEngine undo = engine("UNDO 0 0", "UNDO 0 0", "UNDO 0 0", "UNDO 0 0", "UNDO 0 0", "UNDO 0 0", "UNDO 0 0");
        undo.start(0, 0);
        due("a seventh UNDO counts", undo.count(3), 7);
        for (String last : new String[] {"CALL 0 0", "SLEEP 1", "AWAIT 1 0"}) {
            FlowEngine e = engine("SET 1 1", "AWAIT 0 0", "ZERO 0 4", "JUMP 1", last);
            e.start(0, 1);
            e.signal(0, 1, 0);
            for (int i = 1; i <= 19; i++) {
                e.signal(0, 0, i == 19 ? 0 : 1);
            }
            due(last + " without room", e.flow(0, 0), BROKEN);
            due("it counts", e.count(3), 2 + 18 * 3 + 2);
        }
        for (String now : new String[] {"CALL 1 0", "SLEEP 1", "AWAIT 1 0", "END 0", "FAIL"}) {
            FlowEngine f = engine("SET 1 1", "CALL 0 0");
            f.start(0, 1);
            change(f, 0, 1, now);
            f.signal(0, 1, 0);
            due("broken in a replay by " + now, f.flow(0, 0), BROKEN);
            due("it counts there", f.count(4), 2);
            due("and not here", f.count(3), 2);
        }
        FlowEngine g = engine("JUMP 0");
        g.start(0, 0);
        due("the 61st does not count", g.count(3), 60);
        due("nor there", g.count(4), 0);
        FlowEngine h = engine("CALL 0 0");
        h.start(0, 0);
        change(h, 0, 0, "JUMP 0");
        h.signal(0, 0, 0);
        due("the 61st in a replay does not count", h.count(4), 60);
        due("nor here", h.count(3), 1);
    }

    private static void countReplayed() {
        says("4: REPLAYED INSTRUCTIONS;");
        FlowEngine e = engine("CALL 0 0", "SET 1 1", "CALL 0 0");
        e.start(0, 0);
        due("none", e.count(4), 0);
        answerGood(e, 0, 0);
        for (int i = 1; i <= 3; i++) {
            e.forget(0);
            due("none by forgetting", e.count(4), 3 * i - 3);
            e.signal(0, 0, 0);
            due("three more", e.count(4), 3 * i);
        }
        e.remove(0);
        due("so far", e.count(4), 9);
    }

    private static void countReplays() {
        says("5: REPLAYS so far;");
        FlowEngine e = engine("AWAIT 0 0");
        e.start(0, 0);
        e.start(0, 0);
        e.signal(0, 1, 0);
        due("none of one that is remembered", e.count(5), 0);
        e.forget(0);
        e.signal(0, 1, 0);
        due("one", e.count(5), 1);
        change(e, 0, 0, "JUMP 0");
        due("none by a change", e.count(5), 1);
        e.signal(0, 1, 0);
        due("one by which it is broken", e.count(5), 2);
        e.signal(1, 1, 0);
        due("of another workflow", e.count(5), 3);
        e.remove(0);
        due("so far", e.count(5), 3);
    }

    private static void countLost() {
        says("6: TASKS LOST;");
        FlowEngine e = engine("UNDO 0 0", "CALL 0 0");
        e.start(0, 0);
        wrongTwice(e, 0);
        due("none with tries 3", e.count(6), 0);
        e.answer(0, false, 0);
        due("one", e.count(6), 1);
        lose(e, 0);
        due("one that undoes", e.count(6), 2);
        e.start(0, 0);
        answerGood(e, 1, 0);
        due("none by an answer", e.count(6), 2);
        e.start(0, 0);
        e.take();
        e.remove(2);
        due("none by a removal", e.count(6), 2);
        e.remove(0);
        due("so far", e.count(6), 2);
        FlowEngine f = engine("CALL 0 0");
        f.start(0, 0);
        wrongTwice(f, 0);
        change(f, 0, 0, "CALL 1 0");
        f.tick(5);
        due("none where LOST is not written, as the replay breaks it", f.count(6), 0);
    }

    private static void countEnded() {
        says("7: DONE, 8: FAILED, 9: BROKEN so far;");
        FlowEngine e = new FlowEngine();
        put(e, 1, "FAIL");
        put(e, 2, "JUMP 0");
        for (int i = 1; i <= 4; i++) {
            for (int p = 0; p <= 2; p++) {
                e.start(p, 0);
                due("program " + p, e.count(7 + p), i);
                due("the next of them is not more", e.count(7 + (p + 1) % 3), p == 2 ? i : i - 1);
                e.remove(0);
                due("removed, but so far", e.count(7 + p), i);
            }
        }
        FlowEngine f = engine("UNDO 0 0", "FAIL");
        f.start(0, 0);
        due("not failed while it undoes", f.count(8), 0);
        answerGood(f, 0, 0);
        due("failed", f.count(8), 1);
    }

    private static void countInstructions() {
        says("10 + p: INSTRUCTIONS of PROGRAM p.");
        FlowEngine e = new FlowEngine();
        for (int i = 0; i < 14; i++) {
            for (int p = 0; p <= 2; p++) {
                due("program " + p, e.count(10 + p), i);
                e.add(p, SET, 0, 0);
            }
        }
        for (int p = 0; p <= 2; p++) {
            e.add(p, SET, 0, 0);
            due("at most 14 in program " + p, e.count(10 + p), 14);
        }
    }

    private static void countRefused() {
        says("REFUSED for others.");
        FlowEngine e = engine("AWAIT 0 0");
        e.start(0, 0);
        for (int what : new int[] {LEAST, -1, 13, 14, MOST}) {
            due("what " + what, e.count(what), REFUSED);
        }
        due("the first", e.count(0), 0);
        due("the last", e.count(12), 0);
    }
}
