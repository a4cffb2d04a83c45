/** The edges of replays: what must be the next entry, what breaks a workflow, and what comes behind the last entry. */
final class ReplayEdges extends Check {
    static void all() {
        replayedFirst();
        startsAnew();
        writtenOnes();
        awaitedOnes();
        sixtyBehindEachEntry();
        nextIsNotSo();
        sixtyFirst();
        endedWithEntriesLeft();
        seventhUndo();
        replayedOnes();
        noneLeft();
        sixtyBehindTheLast();
        sleepsSince();
        remembered();
        notWritten();
    }

    private static void replayedFirst() {
        says("Whenever something is to be written for one that is FORGOTTEN, or a SIGNAL comes for it, "
                + "it is REPLAYED first:");
        FlowEngine result = engine("CALL 0 0", "AWAIT 0 0");
        result.start(0, 1);
        result.take();
        result.forget(0);
        due("RESULT", result.answer(0, true, 5), AWAITS);
        due("by a replay", result.count(5), 1);

        FlowEngine lost = engine("CALL 0 0");
        lost.start(0, 1);
        wrongTwice(lost, 0);
        lost.forget(0);
        due("LOST by an answer", lost.answer(0, false, 5), FAILED);
        due("by a replay", lost.count(5), 1);

        FlowEngine late = engine("CALL 0 0");
        late.start(0, 1);
        wrongTwice(late, 0);
        late.forget(0);
        late.tick(5);
        due("LOST by time", late.flow(0, 0), FAILED);
        due("by a replay", late.count(5), 1);

        FlowEngine woke = engine("SLEEP 0");
        woke.start(0, 1);
        woke.forget(0);
        woke.tick(1);
        due("WOKE", woke.flow(0, 0), DONE);
        due("by a replay", woke.count(5), 1);

        for (int s = 0; s <= 1; s++) {
            FlowEngine signal = engine("AWAIT 0 0");
            signal.start(0, 1);
            signal.forget(0);
            due("signal " + s, signal.signal(0, s, 5), s == 0 ? 1 : 0);
            due("by a replay", signal.count(5), 1);
        }
        notReplayed();
    }

    /** Where nothing is to be written. */
    private static void notReplayed() {
        FlowEngine e = engine("CALL 0 0");
        e.start(0, 1);
        e.forget(0);
        due("take", e.take(), 0);
        due("it went wrong a first time", e.answer(0, false, 0), WAITS);
        e.tick(2);
        due("take", e.take(), 0);
        e.tick(5);
        due("not answered a second time", e.flow(0, 8), 2);
        put(e, 1, "SLEEP 0");
        e.start(1, 3);
        e.forget(1);
        e.tick(2);
        due("nothing was to be written", e.count(5), 0);
        due("forgotten still", e.flow(0, 7), 1);
        due("forgotten still", e.flow(1, 7), 1);
    }

    private static void startsAnew() {
        says("it starts anew with its PROGRAM as it is now, from PLACE 0, with what START says, nothing noted.");
        FlowEngine e = engine("ADD 0 0", "ADD 1 0", "UNDO 0 0", "UNDO 0 0", "UNDO 0 0", "UNDO 0 0", "UNDO 0 0",
                "UNDO 0 0", "AWAIT 0 3", "AWAIT 1 2");
        e.start(0, 5);
        e.signal(0, 0, 6);
        for (int i = 1; i <= 3; i++) {
            e.forget(0);
            due("kept", e.signal(0, 2, 0), 0);
            due("what START says, doubled once", e.flow(0, 10), 10);
            due("variable 1 from 0", e.flow(0, 11), 10);
            due("noted", e.flow(0, 4), 6);
            due("replays", e.count(5), i);
        }
        change(e, 0, 1, "SET 1 77");
        due("kept", e.signal(0, 2, 0), 0);
        due("the program as it is now", e.flow(0, 11), 77);
        FlowEngine f = engine("AWAIT 0 0", "AWAIT 1 1");
        f.start(0, 5);
        f.signal(0, 0, 6);
        change(f, 0, 0, "AWAIT 0 3");
        f.signal(0, 2, 0);
        due("variable 0 is what START says", f.flow(0, 10), 5);
        due("variable 3 is what the signal says", f.flow(0, 13), 6);
    }

    private static void writtenOnes() {
        says("As long as there are ENTRIES left, what would be written is not, but must be the next ENTRY "
                + "(WANTED, SLEEPS: sort, number and value the same);");
        // Variable 0 is 1, variable 1 is 0, variable 2 is 2, as all are when a replay comes to place 1.
        String[] before = {"CALL 1 0", "CALL 1 0", "CALL 1 0", "CALL 1 1", "SLEEP 0", "SLEEP 0", "SLEEP 0"};
        String[] now = {"CALL 1 0", "CALL 2 0", "CALL 1 2", "SLEEP 0", "SLEEP 0", "SLEEP 2", "CALL 1 1"};
        boolean[] same = {true, false, false, false, true, false, false};
        for (int i = 0; i < now.length; i++) {
            FlowEngine e = engine("SET 2 2", before[i]);
            e.start(0, 1);
            change(e, 0, 1, now[i]);
            e.signal(0, 0, 0);
            String what = before[i] + " was written, now it is " + now[i];
            due(what, e.flow(0, 0) == BROKEN, !same[i]);
            due(what + ": nothing more is written", e.flow(0, 2), 2);
            due(what + ": replayed", e.count(4), 2);
            due(what + ": tasks", e.line(-1), same[i] && i == 0 ? 1 : 0);
        }
    }

    private static void awaitedOnes() {
        says("and where it waits, the next ENTRY must be one for which it waits (RESULT or LOST of that KIND, WOKE, "
                + "a SIGNAL of that number),");
        FlowEngine e = engine("CALL 3 1", "SLEEP 0", "AWAIT 2 2", "UNDO 1 1", "CALL 0 0");
        e.start(0, 1);
        answerGood(e, 0, 7);
        e.tick(1);
        e.signal(0, 2, 8);
        lose(e, 0);
        due("undoes", e.flow(0, 0), UNDOES);
        e.forget(0);
        due("RESULT, WOKE, SIGNAL and LOST are met", answerGood(e, 0, 9), FAILED);
        due("variable 1", e.flow(0, 11), 7);
        due("variable 2", e.flow(0, 12), 8);
        due("all five", e.count(4), 5);

        // An AWAIT where the next entry is WANTED 1, SLEEPS 1, SIGNAL 1 or SIGNAL 2.
        String[] before = {"CALL 1 0", "SLEEP 0", "AWAIT 1 2", "AWAIT 2 2"};
        for (int i = 0; i < before.length; i++) {
            FlowEngine f = engine(before[i], "AWAIT 3 3");
            f.start(0, 1);
            f.signal(0, 1, 4);
            f.signal(0, 2, 4);
            change(f, 0, 0, "AWAIT 1 2");
            due("signal 3", f.signal(0, 3, 6), i == 2 ? 1 : 0);
            due(before[i] + " was written, now it is AWAIT 1 2", f.flow(0, 0), i == 2 ? DONE : BROKEN);
        }
        notByKeptOnes();
    }

    /** One that is kept for it is not written as long as entries are left. */
    private static void notByKeptOnes() {
        for (int value = 5; value <= 6; value++) {
            FlowEngine e = engine("AWAIT 0 0", "CALL 1 1", "AWAIT 0 2");
            e.start(0, 0);
            e.signal(0, 0, 5);
            due("kept", e.signal(0, 0, value), 0);
            e.forget(0);
            due("kept", e.signal(0, 1, 0), 0);
            due("waits", e.flow(0, 0), WAITS);
            due("the value that is written", e.flow(0, 10), 5);
            due("both are kept still", e.flow(0, 6), 2);
            due("behind all entries the kept one is written", answerGood(e, 0, 0), DONE);
            due("its value", e.flow(0, 12), value);
        }
    }

    /** 60 instructions stand behind the first one that waits, the last of them AWAIT 3; JUMP 8 makes one more. */
    private static FlowEngine roundsBehind(String wait) {
        FlowEngine e = engine(wait, "SET 1 -1", "ZERO 0 5", "ADD 0 1", "JUMP 2", "SET 2 1", "SET 2 2", "SET 2 3",
                "AWAIT 3 3", "AWAIT 2 3", "JUMP 8");
        e.start(0, 18);
        if (e.take() == 0) {
            e.answer(0, true, 18);
        }
        if (e.flow(0, 0) == AWAITS) {
            e.signal(0, 0, 18);
        }
        e.tick(18);
        due("60 behind " + wait, e.flow(0, 3), 8);
        due("1 and 60", e.count(3), 61);
        return e;
    }

    private static void sixtyBehindEachEntry() {
        says("by which it goes on, for up to 60 INSTRUCTIONS again.");
        for (String wait : new String[] {"CALL 0 0", "SLEEP 0", "AWAIT 0 0"}) {
            FlowEngine e = roundsBehind(wait);
            due("signal", e.signal(0, 3, 0), 1);
            e.forget(0);
            due("kept", e.signal(0, 1, 0), 0);
            due("60 again", e.flow(0, 3), 9);
            due("1 and 60 replayed", e.count(4), 61);
        }
        // A kept signal is taken without waiting, but its entry makes it go on for 60 more in a replay.
        FlowEngine f = engine("AWAIT 0 0", "AWAIT 1 0", "SET 1 -1", "ZERO 0 6", "ADD 0 1", "JUMP 3", "SET 2 1",
                "SET 2 2", "AWAIT 2 3", "AWAIT 3 3", "JUMP 8");
        f.start(0, 0);
        f.signal(0, 1, 18);
        f.signal(0, 0, 18);
        due("AWAIT and 59 behind it", f.flow(0, 3), 8);
        f.signal(0, 2, 1);
        change(f, 0, 7, "JUMP 10");
        f.signal(0, 1, 0);
        due("AWAIT and 60 behind it", f.flow(0, 0), AWAITS);
        due("AWAIT, AWAIT and 60", f.count(4), 62);
    }

    private static void nextIsNotSo() {
        says("If the next ENTRY is not so,");
        FlowEngine e = engine("SET 1 4", "CALL 1 0", "AWAIT 0 0");
        e.start(0, 6);
        answerGood(e, 0, 7);
        change(e, 0, 1, "CALL 1 1");
        due("signal", e.signal(0, 0, 0), 0);
        due("broken", e.flow(0, 0), BROKEN);
        wrote("what was written stays", e, 0, START, 0, 6, WANTED, 1, 6, RESULT, 1, 7);
        due("variables as they were then", e.flow(0, 10), 6);
        due("nothing is kept", e.flow(0, 6), 0);
        due("it is remembered", e.flow(0, 7), 0);
        due("broken so far", e.count(9), 1);
    }

    private static void sixtyFirst() {
        says("a 61st INSTRUCTION would be done,");
        for (String wait : new String[] {"CALL 0 0", "SLEEP 0", "AWAIT 0 0"}) {
            FlowEngine e = roundsBehind(wait);
            due("signal", e.signal(0, 3, 0), 1);
            change(e, 0, 7, "JUMP 10");
            due("signal", e.signal(0, 1, 0), 0);
            due("a 61st behind " + wait, e.flow(0, 0), BROKEN);
            due("1 and 60 replayed", e.count(4), 61);
            due("61 and AWAIT 2 before", e.count(3), 62);
        }
        FlowEngine f = engine("AWAIT 0 0");
        f.start(0, 0);
        f.signal(0, 1, 0);
        change(f, 0, 0, "JUMP 0");
        f.signal(0, 1, 0);
        due("a 61st with no entry left", f.flow(0, 0), BROKEN);
        FlowEngine g = engine("CALL 0 0");
        g.start(0, 0);
        change(g, 0, 0, "JUMP 0");
        g.signal(0, 1, 0);
        due("a 61st before the first entry", g.flow(0, 0), BROKEN);
        due("60 replayed", g.count(4), 60);
        line("its task is gone", g);
    }

    private static void endedWithEntriesLeft() {
        says("or it has ENDED with ENTRIES left, it is BROKEN.");
        for (String now : new String[] {"END 0", "FAIL"}) {
            FlowEngine e = engine("CALL 0 0", "AWAIT 0 1", "CALL 1 1");
            e.start(0, 3);
            answerGood(e, 0, 5);
            change(e, 0, 1, now);
            due(now + " with none left", e.signal(0, 0, 0), 0);
            due(now, e.flow(0, 0), now.equals("FAIL") ? FAILED : DONE);

            FlowEngine f = engine("CALL 0 0", "AWAIT 0 1", "CALL 1 1");
            f.start(0, 3);
            answerGood(f, 0, 5);
            f.signal(0, 0, 0);
            change(f, 0, 1, now);
            due(now + " with two left", answerGood(f, 0, 5), BROKEN);
            due("no outcome", f.flow(0, 5), 0);
            due("neither done nor failed", f.count(7) + f.count(8), 0);
            due("broken", f.count(9), 1);
        }
        FlowEngine g = engine("UNDO 0 0", "UNDO 1 0", "FAIL");
        g.start(0, 3);
        answerGood(g, 0, 5);
        change(g, 0, 0, "SET 3 3");
        due("undone with one left", answerGood(g, 0, 5), BROKEN);
        due("not failed", g.count(8), 0);
        FlowEngine h = engine("CALL 0 0");
        h.start(0, 3);
        change(h, 0, 0, "JUMP 1");
        due("behind the last instruction with one left", answerGood(h, 0, 5), BROKEN);
    }

    private static void seventhUndo() {
        says("with a seventh the WORKFLOW is BROKEN.");
        FlowEngine e = engine("UNDO 0 0", "UNDO 0 0", "UNDO 0 0", "UNDO 0 0", "UNDO 0 0", "UNDO 0 0", "SET 1 0",
                "CALL 0 0");
        e.start(0, 3);
        change(e, 0, 6, "UNDO 1 0");
        due("a seventh UNDO with an entry left", answerGood(e, 0, 5), BROKEN);
        due("seven replayed", e.count(4), 7);
    }

    private static void replayedOnes() {
        says("INSTRUCTIONS done as long as ENTRIES are left are REPLAYED ones.");
        FlowEngine e = engine("SET 1 1", "CALL 0 0", "SET 2 1", "SLEEP 1", "AWAIT 0 0", "SET 3 1", "AWAIT 1 0");
        e.start(0, 3);
        e.forget(0);
        e.signal(0, 3, 0);
        due("SET and CALL, by which the last entry is met", e.count(4), 2);
        due("none anew", e.count(3), 2);
        answerGood(e, 0, 4);
        e.forget(0);
        e.signal(0, 3, 0);
        due("SET, CALL, SET and SLEEP", e.count(4), 6);
        due("none anew", e.count(3), 4);
        e.tick(1);
        e.signal(0, 0, 4);
        due("AWAIT, SET and AWAIT", e.count(3), 7);
        e.forget(0);
        e.signal(0, 3, 0);
        due("five, AWAIT being the last", e.count(4), 11);
        due("SET and AWAIT are behind the last entry", e.count(3), 9);
        FlowEngine f = engine("SET 1 1", "AWAIT 0 0");
        f.start(0, 3);
        f.forget(0);
        f.signal(0, 3, 0);
        due("none with nothing but START", f.count(4), 0);
        due("twice", f.count(3), 4);
    }

    private static void noneLeft() {
        says("When none is left it goes on as ever,");
        String[] now = {"CALL 2 0", "SLEEP 0", "AWAIT 1 1", "END 0", "FAIL", "JUMP 2"};
        int[] states = {WAITS, SLEEPS, AWAITS, DONE, UNDOES, BROKEN};
        int[] entries = {3, 3, 2, 2, 3, 2};
        for (int i = 0; i < now.length; i++) {
            FlowEngine e = engine("UNDO 3 0", "AWAIT 0 0", "AWAIT 2 0");
            e.start(0, 1);
            e.signal(0, 0, 4);
            change(e, 0, 2, now[i]);
            due(now[i], e.signal(0, 3, 0), 0);
            due(now[i], e.flow(0, 0), states[i]);
            due(now[i] + ", entries", e.flow(0, 2), entries[i]);
            due(now[i] + ", tasks", e.line(-1), now[i].startsWith("CALL") || i == 4 ? 1 : 0);
        }
        FlowEngine f = engine("AWAIT 0 0", "END 0");
        f.start(0, 1);
        f.signal(0, 1, 7);
        change(f, 0, 0, "AWAIT 1 0");
        due("a kept one is taken at once", f.signal(0, 0, 4), 0);
        due("outcome", f.flow(0, 5), 7);
        due("none is kept", f.flow(0, 6), 0);
    }

    private static void sixtyBehindTheLast() {
        says("for up to 60 INSTRUCTIONS from there on,");
        for (String wait : new String[] {"CALL 0 0", "SLEEP 0", "AWAIT 0 0"}) {
            FlowEngine e = roundsBehind(wait);
            e.forget(0);
            due("kept", e.signal(0, 1, 0), 0);
            due("60 behind the last entry", e.flow(0, 3), 8);
            due("61 and 60 more", e.count(3), 121);
            due("one replayed", e.count(4), 1);
            change(e, 0, 7, "JUMP 10");
            due("signal", e.signal(0, 1, 0), 0);
            due("a 61st", e.flow(0, 0), BROKEN);
            due("60 more", e.count(3), 181);
            due("two replayed", e.count(4), 2);
        }
    }

    private static void sleepsSince() {
        says("till it waits for something or has ENDED (SLEEPING since that was written first, or now if it was not).");
        FlowEngine e = engine("SLEEP 0", "AWAIT 0 0");
        e.start(0, 5);
        e.tick(2);
        e.forget(0);
        e.signal(0, 1, 0);
        due("sleeps", e.flow(0, 0), SLEEPS);
        e.tick(2);
        due("4 of 5 ticks", e.flow(0, 0), SLEEPS);
        e.tick(1);
        due("5 ticks since it was written", e.flow(0, 0), AWAITS);

        FlowEngine f = engine("AWAIT 0 0", "AWAIT 1 1");
        f.start(0, 5);
        f.tick(2);
        change(f, 0, 0, "SLEEP 0");
        f.tick(20);
        due("nothing comes for it", f.flow(0, 0), AWAITS);
        due("signal", f.signal(0, 1, 0), 0);
        due("sleeps", f.flow(0, 0), SLEEPS);
        f.tick(4);
        due("4 of 5 ticks since now", f.flow(0, 0), SLEEPS);
        f.tick(1);
        due("5 ticks since now", f.flow(0, 0), DONE);

        FlowEngine g = engine("SLEEP 0", "SLEEP 0", "AWAIT 0 0");
        g.start(0, 2);
        g.forget(0);
        g.tick(2);
        due("woken by a replay, the second sleep", g.flow(0, 2), 4);
        g.tick(1);
        due("since it was woken", g.flow(0, 0), SLEEPS);
        g.tick(1);
        due("2 ticks", g.flow(0, 0), AWAITS);
    }

    private static void remembered() {
        says("Behind that it is REMEMBERED,");
        FlowEngine e = engine("SET 1 3", "UNDO 0 0", "AWAIT 0 0");
        e.start(0, 2);
        e.forget(0);
        due("place before", e.flow(0, 3), NONE);
        e.signal(0, 1, 0);
        due("forgotten no more", e.flow(0, 7), 0);
        due("place", e.flow(0, 3), 2);
        due("noted", e.flow(0, 4), 1);
        due("variable", e.flow(0, 11), 3);
        e.signal(0, 1, 0);
        due("not replayed again", e.count(5), 1);
        due("forget", e.forget(0), true);
    }

    private static void notWritten() {
        says("and then, if it has not ENDED, and waits for just that, what was to be written is written.");
        FlowEngine e = engine("CALL 0 0", "AWAIT 0 0");
        e.start(0, 2);
        e.take();
        e.forget(0);
        e.answer(0, true, 5);
        wrote("what was to be written", e, 0, START, 0, 2, WANTED, 0, 2, RESULT, 0, 5);
        e.forget(0);
        due("it waits for just that", e.signal(0, 0, 6), 1);
        due("written", e.flow(0, 2), 4);

        FlowEngine result = engine("CALL 0 0");
        result.start(0, 2);
        result.take();
        change(result, 0, 0, "CALL 1 0");
        due("broken", result.answer(0, true, 5), BROKEN);
        wrote("no RESULT", result, 0, START, 0, 2, WANTED, 0, 2);

        FlowEngine lost = engine("CALL 0 0");
        lost.start(0, 2);
        wrongTwice(lost, 0);
        change(lost, 0, 0, "CALL 1 0");
        due("broken", lost.answer(0, false, 5), BROKEN);
        wrote("no LOST", lost, 0, START, 0, 2, WANTED, 0, 2);

        FlowEngine woke = engine("SLEEP 0");
        woke.start(0, 2);
        change(woke, 0, 0, "SLEEP 1");
        woke.tick(2);
        due("broken", woke.flow(0, 0), BROKEN);
        wrote("no WOKE", woke, 0, START, 0, 2, SLEPT, 2, 0);

        FlowEngine signal = engine("AWAIT 0 0");
        signal.start(0, 2);
        change(signal, 0, 0, "AWAIT 1 0");
        due("it waits for another signal", signal.signal(0, 0, 5), 0);
        wrote("no SIGNAL", signal, 0, START, 0, 2);
        due("it is kept", signal.flow(0, 6), 1);

        FlowEngine done = engine("AWAIT 0 0");
        done.start(0, 2);
        change(done, 0, 0, "END 0");
        due("done by the replay", done.signal(0, 0, 5), 0);
        wrote("no SIGNAL", done, 0, START, 0, 2);
    }
}
