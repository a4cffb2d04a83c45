/** The edges of going on: waiting, failing and undoing, the 61st instruction and the 21st entry. */
final class GoingOnEdges extends Check {
    static void all() {
        fromPlace0();
        call();
        sleep();
        await();
        keptNoRoom();
        failing();
        undoGoesNowhere();
        undoes();
        sixtyFirst();
        sixtyFromWhatMadeItGoOn();
        entry21();
    }

    private static void fromPlace0() {
        says("TO GO ON: INSTRUCTIONS are done one behind the other, from PLACE 0 on when it starts.");
        FlowEngine e = engine("SET 0 4", "ADD 0 0", "SET 1 5", "ADD 1 0", "END 1");
        e.start(0, 9);
        due("in their order", e.flow(0, 5), 13);
        due("five", e.count(3), 5);
        e.remove(0);
        e.start(0, 9);
        due("from place 0 again in another workflow 0", e.flow(0, 5), 13);
        FlowEngine f = engine("AWAIT 0 0");
        f.start(0, 9);
        due("place 0 itself", f.flow(0, 3), 0);
    }

    private static void call() {
        says("CALL writes WANTED, if its ENTRY is not written yet, and the WORKFLOW WAITS until a RESULT or LOST "
                + "is written; with RESULT it goes on, with LOST it FAILS.");
        FlowEngine e = engine("UNDO 0 0", "CALL 1 0", "SET 1 7", "END 1");
        e.start(0, 5);
        wrote("wanted", e, 0, START, 0, 5, WANTED, 1, 5);
        due("waits", e.flow(0, 0), WAITS);
        e.signal(0, 0, 1);
        e.tick(20);
        due("neither a signal nor time helps", e.flow(0, 0), WAITS);
        e.forget(0);
        e.signal(0, 0, 1);
        wrote("it is written once", e, 0, START, 0, 5, WANTED, 1, 5);
        due("with RESULT", answerGood(e, 0, 6), DONE);
        due("it goes on", e.flow(0, 5), 7);
        FlowEngine f = engine("UNDO 0 0", "CALL 1 0", "SET 1 7", "END 1");
        f.start(0, 5);
        due("with LOST it fails", lose(f, 0), UNDOES);
        due("nothing behind CALL is done", f.flow(0, 11), 0);
    }

    private static void sleep() {
        says("SLEEP (1 TICK or more) writes SLEEPS, and it SLEEPS until WOKE is written.");
        FlowEngine e = engine("SLEEP 0", "SLEEP 1", "AWAIT 0 0");
        e.start(0, 1);
        wrote("1 tick", e, 0, START, 0, 1, SLEPT, 1, 0);
        due("sleeps", e.flow(0, 0), SLEEPS);
        due("a signal does not wake it", e.signal(0, 0, 4), 0);
        due("sleeps", e.flow(0, 0), SLEEPS);
        e.tick(1);
        wrote("woken, and 0 ticks are not written", e, 0,
                START, 0, 1, SLEPT, 1, 0, WOKE, 0, 0, SIGNAL, 0, 4);
    }

    private static void await() {
        says("AWAIT: the WORKFLOW AWAITS until a SIGNAL of this number is written; if one of this number is kept "
                + "for it, the oldest such is written at once, and is kept no more");
        FlowEngine e = engine("AWAIT 0 0", "AWAIT 1 1", "AWAIT 1 2", "AWAIT 1 3");
        e.start(0, 0);
        e.signal(0, 2, 20);
        e.signal(0, 1, 11);
        e.signal(0, 1, 12);
        due("awaits until then", e.flow(0, 3), 0);
        due("nothing is written", e.flow(0, 2), 1);
        e.signal(0, 0, 5);
        due("two were kept, for a third it awaits", e.flow(0, 3), 3);
        due("one of another number is kept still", e.flow(0, 6), 1);
        wrote("the oldest first", e, 0, START, 0, 0, SIGNAL, 0, 5, SIGNAL, 1, 11, SIGNAL, 1, 12);
        due("variable 1", e.flow(0, 11), 11);
        due("variable 2", e.flow(0, 12), 12);
        due("a kept one can be taken once", e.flow(0, 0), AWAITS);
    }

    /** Awaits signal 0 again and again, and is at place 3 behind one with the value 0. */
    private static FlowEngine filling(String... behind) {
        FlowEngine e = engine("AWAIT 0 0", "ZERO 0 3", "JUMP 0");
        put(e, 0, behind);
        e.start(0, 1);
        return e;
    }

    /** As many entries are written behind START, and it goes on at place 3. */
    private static void fill(FlowEngine e, int entries) {
        for (int i = 1; i <= entries; i++) {
            due("signal", e.signal(0, 0, i == entries ? 0 : 1), 1);
        }
    }

    private static void keptNoRoom() {
        says("(if there is no room for the ENTRY it is BROKEN, and the SIGNAL stays kept).");
        FlowEngine e = filling("AWAIT 1 1", "END 1");
        e.signal(0, 1, 77);
        e.signal(0, 1, 78);
        fill(e, 19);
        due("broken", e.flow(0, 0), BROKEN);
        due("both stay kept", e.flow(0, 6), 2);
        due("20 entries", e.flow(0, 2), 20);
        due("its value goes nowhere", e.flow(0, 11), 0);
        FlowEngine f = filling("AWAIT 1 1", "END 1");
        f.signal(0, 1, 77);
        fill(f, 18);
        due("as the 20th there is room", f.flow(0, 5), 77);
        due("and it is kept no more", f.flow(0, 6), 0);
    }

    private static void failing() {
        says("A WORKFLOW that FAILS, with n ACTIVITIES noted by UNDO, wants these, the latest first, one behind the "
                + "other, each as by CALL");
        FlowEngine e = engine("UNDO 0 0", "UNDO 1 0", "UNDO 2 0", "UNDO 3 0", "UNDO 0 1", "UNDO 1 1", "FAIL");
        e.start(0, 9);
        int[] kinds = {1, 0, 3, 2, 1, 0};
        for (int i = 0; i < 6; i++) {
            due("one behind the other", e.flow(0, 2), 2 + 2 * i);
            due("kind", e.entry(0, 1 + 2 * i, 1), kinds[i]);
            due("argument", e.entry(0, 1 + 2 * i, 2), i < 2 ? 0 : 9);
            line("one task at a time", e, 0);
            due("answer", answerGood(e, 0, 5), i < 5 ? UNDOES : FAILED);
        }
        due("entries", e.flow(0, 2), 13);
    }

    private static void undoGoesNowhere() {
        says("(but its RESULT goes nowhere, and LOST does not matter);");
        FlowEngine e = engine("SET 1 4", "UNDO 0 1", "UNDO 1 1", "CALL 2 2");
        e.start(0, 3);
        due("LOST of a CALL", lose(e, 0), UNDOES);
        due("LOST of one that undoes", lose(e, 0), UNDOES);
        due("the next one is wanted", e.entry(0, 5, 1), 0);
        due("RESULT of one that undoes", answerGood(e, 0, 99), FAILED);
        for (int v = 0; v <= 3; v++) {
            due("variable " + v, e.flow(0, 10 + v), v == 0 ? 3 : v == 1 ? 4 : 0);
        }
        FlowEngine f = engine("UNDO 0 0", "FAIL");
        f.start(0, 3);
        due("LOST of the last one", lose(f, 0), FAILED);
    }

    private static void undoes() {
        says("it UNDOES meanwhile; behind the last one it is FAILED (at once if n is 0).");
        FlowEngine e = engine("FAIL");
        e.start(0, 3);
        due("n is 0", e.flow(0, 0), FAILED);
        wrote("n is 0", e, 0, START, 0, 3);
        FlowEngine f = engine("UNDO 2 0", "FAIL");
        f.start(0, 3);
        due("n is 1", f.flow(0, 0), UNDOES);
        due("not failed yet", f.count(8), 0);
        due("behind the last one", answerGood(f, 0, 0), FAILED);
        due("failed", f.count(8), 1);
        FlowEngine g = engine("CALL 2 0");
        g.start(0, 3);
        due("LOST with n 0", lose(g, 0), FAILED);
    }

    /** With 18 in variable 0, what stands behind the rounds is the 60th instruction, or the 61st with one more. */
    private static FlowEngine rounds(boolean oneMore, String... behind) {
        FlowEngine e = engine("SET 1 -1", "ZERO 0 4", "ADD 0 1", "JUMP 1", "UNDO 3 1", "SET 2 2");
        put(e, 0, oneMore ? new String[] {"SET 2 3", "SET 2 4"} : new String[] {"SET 2 3"});
        put(e, 0, behind);
        return e;
    }

    private static void sixtyFirst() {
        says("If a 61st INSTRUCTION would be done in going on once");
        String[] ops = {"SET 0 5", "JUMP 0", "CALL 1 2", "SLEEP 2", "AWAIT 0 2", "UNDO 0 0", "FAIL", "END 2"};
        int[] states = {BROKEN, BROKEN, WAITS, SLEEPS, AWAITS, BROKEN, UNDOES, DONE};
        for (int i = 0; i < ops.length; i++) {
            FlowEngine e = rounds(false, ops[i]);
            e.start(0, 18);
            due(ops[i] + " as the 60th", e.flow(0, 0), states[i]);
            due("60 are counted", e.count(3), 60);
            FlowEngine f = rounds(true, ops[i]);
            f.start(0, 18);
            due(ops[i] + " as the 61st", f.flow(0, 0), BROKEN);
            due("60 are counted", f.count(3), 60);
            due("the 60th was done", f.flow(0, 12), 4);
            due("nothing is written", f.flow(0, 2), 1);
            due("nothing is undone", f.line(-1), 0);
        }
    }

    private static void sixtyFromWhatMadeItGoOn() {
        says("(from what made it go on till it waits for something or has ENDED),");
        String[] waits = {"CALL 0 0", "SLEEP 0", "AWAIT 0 0"};
        for (String wait : waits) {
            for (int more = 0; more <= 1; more++) {
                FlowEngine e = engine("SET 2 1", wait, "SET 1 -1", "ZERO 0 6", "ADD 0 1", "JUMP 3", "SET 2 2");
                put(e, 0, more == 0 ? new String[] {"SET 2 3"} : new String[] {"SET 2 3", "SET 2 3"});
                put(e, 0, "SET 2 3", "AWAIT 2 2");
                e.start(0, 18);
                due("before " + wait, e.count(3), 2);
                if (e.take() == 0) {
                    e.answer(0, true, 18);
                }
                e.signal(0, 0, 18);
                e.tick(18);
                due("60 behind " + wait + ", and " + more + " more", e.flow(0, 0), more == 0 ? AWAITS : BROKEN);
                due("60 behind two", e.count(3), 62);
            }
        }
        keptIsNoWaiting();
        undoingIsNoInstruction();
    }

    /** A kept signal is taken at once, without waiting: what was done before it counts along. */
    private static void keptIsNoWaiting() {
        for (int more = 0; more <= 1; more++) {
            FlowEngine e = engine("CALL 0 0", "AWAIT 0 0", "SET 1 -1", "ZERO 0 6", "ADD 0 1", "JUMP 3", "SET 2 1");
            put(e, 0, more == 0 ? new String[] {"SET 2 2"} : new String[] {"SET 2 2", "SET 2 3"});
            put(e, 0, "AWAIT 1 2");
            e.start(0, 0);
            e.signal(0, 0, 18);
            due("AWAIT, 56, SET and SET, AWAIT are 60", answerGood(e, 0, 5), more == 0 ? AWAITS : BROKEN);
            due("counted", e.count(3), 61);
        }
    }

    private static void undoingIsNoInstruction() {
        FlowEngine e = rounds(false, "FAIL");
        e.start(0, 18);
        due("FAIL as the 60th, and an activity is wanted", e.flow(0, 0), UNDOES);
        due("60", e.count(3), 60);
        due("answer", answerGood(e, 0, 0), FAILED);
        due("60 still", e.count(3), 60);
    }

    private static void entry21() {
        says("or a 21st ENTRY would be written, the WORKFLOW is BROKEN (what was written stays).");
        String[] ops = {"CALL 1 1", "SLEEP 1", "FAIL"};
        int[] states = {WAITS, SLEEPS, UNDOES};
        for (int i = 0; i < ops.length; i++) {
            FlowEngine e = filling("SET 1 3", "UNDO 2 1", ops[i]);
            fill(e, 18);
            due("20th entry by " + ops[i], e.flow(0, 0), states[i]);
            due("20", e.flow(0, 2), 20);
            FlowEngine f = filling("SET 1 3", "UNDO 2 1", ops[i]);
            fill(f, 19);
            due("21st entry by " + ops[i], f.flow(0, 0), BROKEN);
            due("20", f.flow(0, 2), 20);
            due("the last one stays", f.entry(0, 19, 0), SIGNAL);
            due("no task", f.line(-1), 0);
            due("variables stay", f.flow(0, 11), 3);
            due("broken", f.count(9), 1);
        }
        entry21OfWhatIsAwaited();
    }

    private static void entry21OfWhatIsAwaited() {
        FlowEngine result = filling("CALL 1 1", "END 1");
        fill(result, 18);
        due("RESULT as the 21st", answerGood(result, 0, 5), BROKEN);
        due("it goes nowhere", result.flow(0, 11), 0);
        due("20", result.flow(0, 2), 20);

        FlowEngine lost = filling("UNDO 0 0", "CALL 1 1", "END 1");
        fill(lost, 18);
        due("LOST as the 21st", lose(lost, 0), BROKEN);
        due("20", lost.flow(0, 2), 20);
        due("nothing is undone", lost.line(-1), 0);

        FlowEngine woke = filling("SET 1 2", "SLEEP 1", "END 1");
        fill(woke, 18);
        woke.tick(1);
        due("sleeps still", woke.flow(0, 0), SLEEPS);
        woke.tick(1);
        due("WOKE as the 21st", woke.flow(0, 0), BROKEN);
        due("20", woke.flow(0, 2), 20);

        FlowEngine signal = filling("AWAIT 3 1", "END 1");
        fill(signal, 19);
        due("awaits still", signal.flow(0, 0), AWAITS);
        due("SIGNAL as the 21st", signal.signal(0, 3, 4), 1);
        due("broken", signal.flow(0, 0), BROKEN);
        due("it is not kept", signal.flow(0, 6), 0);
        due("20", signal.flow(0, 2), 20);

        FlowEngine undo = filling("UNDO 1 0", "FAIL");
        fill(undo, 18);
        due("RESULT of one that undoes as the 21st", answerGood(undo, 0, 4), BROKEN);
        due("not failed", undo.count(8), 0);
    }
}
