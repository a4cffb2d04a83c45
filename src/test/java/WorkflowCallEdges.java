/** The edges of promises 6 to 10: signal, take, answer, tick and forget. */
final class WorkflowCallEdges extends Check {
    private static final int[] WRONG = {Integer.MIN_VALUE, -1, 6, Integer.MAX_VALUE};

    static void all() {
        signalReplays();
        signalWritten();
        signalKept();
        signalRefused();
        signalNone();
        signalFull();
        take();
        takeNone();
        answer();
        answerReplays();
        answerState();
        answerRefused();
        answerNone();
        tick();
        tickNotAnswered();
        tickWakes();
        tickTime();
        tickRefused();
        forget();
        forgetFalse();
    }

    private static void signalReplays() {
        says("`int signal(int w, int s, int v)`: SIGNAL s (0 to 3) with the value v for WORKFLOW w, which is REPLAYED "
                + "first if it is FORGOTTEN.");
        for (int s : new int[] {0, 3}) {
            FlowEngine e = engine("AWAIT " + s + " 2", "AWAIT " + (3 - s) + " 3");
            e.start(0, 0);
            due("one that is remembered", e.signal(0, 3 - s, Integer.MIN_VALUE), 0);
            due("is not replayed", e.count(5), 0);
            e.forget(0);
            due("one that is forgotten", e.signal(0, s, Integer.MAX_VALUE), 1);
            due("is", e.count(5), 1);
            due("value of the one", e.flow(0, 12), Integer.MAX_VALUE);
            due("value of the kept one", e.flow(0, 13), Integer.MIN_VALUE);
        }
        FlowEngine f = engine("AWAIT 0 0", "END 0");
        f.start(0, 0);
        change(f, 0, 0, "AWAIT 3 0");
        due("awaited by the replay alone", f.signal(0, 3, 5), 1);
        due("outcome", f.flow(0, 5), 5);
    }

    private static void signalWritten() {
        says("If it AWAITS this SIGNAL then, it is written, and the WORKFLOW goes on (or is BROKEN, if there is no "
                + "room for the ENTRY): 1;");
        FlowEngine e = engine("AWAIT 2 1", "JUMP 0");
        e.start(0, 0);
        for (int i = 1; i <= 19; i++) {
            due("signal", e.signal(0, 2, i), 1);
            due("written", e.entry(0, i, 2), i);
            due("it has gone on", e.flow(0, 0), AWAITS);
        }
        due("no room", e.signal(0, 2, 20), 1);
        due("broken", e.flow(0, 0), BROKEN);
        due("not kept", e.flow(0, 6), 0);
        due("value goes nowhere", e.flow(0, 11), 19);
        FlowEngine f = engine("AWAIT 2 1", "JUMP 0");
        f.start(0, 0);
        for (int i = 1; i <= 19; i++) {
            f.signal(0, 2, i);
        }
        f.forget(0);
        due("no room for one that was forgotten", f.signal(0, 2, 20), 1);
        due("broken", f.flow(0, 0), BROKEN);
        due("entries", f.flow(0, 2), 20);
    }

    private static void signalKept() {
        says("else it is kept for it, behind others, or nothing happens, if it has ENDED by the REPLAY: 0.");
        for (String first : new String[] {"CALL 0 1", "SLEEP 0", "AWAIT 0 1", "FAIL"}) {
            FlowEngine e = engine("UNDO 0 0", first, "AWAIT 1 2", "AWAIT 1 3");
            e.start(0, 1);
            due("kept behind " + first, e.signal(0, 1, 5), 0);
            due("behind others", e.signal(0, 1, 6), 0);
            due("two", e.flow(0, 6), 2);
        }
        FlowEngine f = engine("AWAIT 0 1", "AWAIT 1 2", "AWAIT 1 3");
        f.start(0, 1);
        f.signal(0, 1, 5);
        f.signal(0, 1, 6);
        f.signal(0, 0, 0);
        due("the first", f.flow(0, 12), 5);
        due("behind it", f.flow(0, 13), 6);
        String[] now = {"END 0", "FAIL", "JUMP 0"};
        for (int i = 0; i < now.length; i++) {
            FlowEngine g = engine("AWAIT 0 1");
            g.start(0, 1);
            change(g, 0, 0, now[i]);
            due("ended by " + now[i], g.signal(0, 0, 5), 0);
            due("state", g.flow(0, 0), DONE + i);
            due("nothing is kept", g.flow(0, 6), 0);
            due("nothing is written", g.flow(0, 2), 1);
        }
    }

    private static void signalRefused() {
        says("REFUSED if there is no such WORKFLOW or SIGNAL;");
        FlowEngine e = engine("AWAIT 0 1");
        e.start(0, 1);
        for (int x : WRONG) {
            due("workflow " + x, e.signal(x, 0, 0), REFUSED);
        }
        for (int s : new int[] {Integer.MIN_VALUE, -1, 4, Integer.MAX_VALUE}) {
            due("signal " + s, e.signal(0, s, 0), REFUSED);
        }
        for (int w = 1; w <= 5; w++) {
            due("not there", e.signal(w, 0, 0), REFUSED);
        }
        due("nothing is kept", e.flow(0, 6), 0);
        e.remove(0);
        due("removed", e.signal(0, 0, 0), REFUSED);
    }

    private static void signalNone() {
        says("NONE if it has ENDED before;");
        for (String last : new String[] {"END 0", "FAIL", "JUMP 1"}) {
            FlowEngine f = engine("AWAIT 0 1", last);
            f.start(0, 1);
            f.signal(0, 0, 0);
            due("behind " + last, f.signal(0, 0, 0), NONE);
            due("nothing is kept", f.flow(0, 6), 0);
        }
        FlowEngine g = engine("CALL 0 0", "END 0");
        g.start(0, 1);
        for (int i = 0; i < 4; i++) {
            g.signal(0, 1, i);
        }
        answerGood(g, 0, 0);
        due("4 are kept, but it has ended", g.signal(0, 1, 0), NONE);
    }

    private static void signalFull() {
        says("FULL if 4 are kept for it already (whether it AWAITS this one or not).");
        FlowEngine e = engine("AWAIT 0 1", "AWAIT 3 2");
        e.start(0, 1);
        for (int s = 1; s <= 3; s++) {
            due("kept", e.signal(0, s, 0), 0);
        }
        due("a fourth", e.signal(0, 1, 0), 0);
        due("a fifth", e.signal(0, 1, 0), FULL);
        due("one that it awaits", e.signal(0, 0, 0), FULL);
        due("four", e.flow(0, 6), 4);
        due("it awaits still", e.flow(0, 3), 0);
        e.forget(0);
        due("of one that is forgotten", e.signal(0, 0, 0), FULL);
        due("it is not replayed", e.count(5), 0);
        due("forgotten still", e.flow(0, 7), 1);
        FlowEngine f = engine("AWAIT 0 1", "AWAIT 3 2", "AWAIT 0 1");
        f.start(0, 1);
        for (int i = 0; i < 3; i++) {
            f.signal(0, 3, i);
        }
        due("with three kept", f.signal(0, 0, 0), 1);
        due("two are kept now", f.flow(0, 6), 2);
        f.signal(0, 1, 0);
        due("there is room again", f.signal(0, 1, 0), 0);
        due("and now no more", f.signal(0, 0, 0), FULL);
        f.start(0, 1);
        due("each workflow has its own", f.signal(1, 0, 0), 1);
    }

    private static void take() {
        says("`int take()`: A worker takes a TASK: the WORKFLOW of it.");
        FlowEngine e = engine("CALL 0 0");
        for (int w = 0; w < 6; w++) {
            e.start(0, 0);
        }
        for (int w = 0; w < 6; w++) {
            due("take", e.take(), w);
            due("out", e.flow(w, 9), 1);
        }
        FlowEngine f = engine("CALL 0 0");
        f.start(0, 0);
        f.forget(0);
        due("of one that is forgotten", f.take(), 0);
        due("no replay", f.count(5), 0);
    }

    private static void takeNone() {
        says("NONE if there is none that may be taken.");
        FlowEngine e = engine("CALL 0 0");
        due("an empty line", e.take(), NONE);
        e.start(0, 0);
        e.take();
        due("all are out", e.take(), NONE);
        e.answer(0, false, 0);
        due("all are before their time", e.take(), NONE);
        e.tick(1);
        due("1 tick before its time", e.take(), NONE);
        due("tries stay", e.flow(0, 8), 1);
        line("it stays in the line", e, 0);
        e.tick(1);
        due("at its time", e.take(), 0);
    }

    private static void answer() {
        says("`int answer(int w, boolean good, int v)`: The TASK of WORKFLOW w that is OUT is answered: with good true "
                + "RESULT v is written, and the WORKFLOW goes on; else it went wrong.");
        for (int v : new int[] {Integer.MIN_VALUE, 0, Integer.MAX_VALUE}) {
            FlowEngine e = engine("CALL 1 3", "END 3");
            for (int w = 0; w < 6; w++) {
                e.start(0, 5);
                e.take();
            }
            due("of workflow 5", e.answer(5, true, v), DONE);
            wrote("result", e, 5, START, 0, 5, WANTED, 1, 0, RESULT, 1, v);
            due("outcome", e.flow(5, 5), v);
            due("of workflow 0", e.answer(0, false, v), WAITS);
            wrote("it went wrong, v is not looked at", e, 0, START, 0, 5, WANTED, 1, 0);
            line("it comes back", e, 0);
            due("the others are out", e.flow(1, 9), 1);
        }
    }

    private static void answerReplays() {
        says("(The first one is REPLAYED if it is FORGOTTEN, where RESULT or LOST is to be written.)");
        FlowEngine e = engine("CALL 1 0", "AWAIT 0 0");
        e.start(0, 5);
        e.forget(0);
        e.take();
        due("wrong, tries 1", e.answer(0, false, 0), WAITS);
        e.tick(2);
        e.take();
        due("wrong, tries 2", e.answer(0, false, 0), WAITS);
        due("not replayed", e.count(5), 0);
        due("forgotten", e.flow(0, 7), 1);
        e.tick(4);
        e.take();
        due("wrong, tries 3", e.answer(0, false, 0), FAILED);
        due("replayed", e.count(5), 1);
        e.start(0, 5);
        e.take();
        e.forget(1);
        due("good", e.answer(1, true, 0), AWAITS);
        due("replayed", e.count(5), 2);
        due("remembered", e.flow(1, 7), 0);
        e.start(0, 5);
        e.take();
        due("one that is remembered", e.answer(2, true, 0), AWAITS);
        due("is not replayed", e.count(5), 2);
    }

    private static void answerState() {
        says("Answers the STATE of the WORKFLOW behind that.");
        String[] behind = {"CALL 1 0", "SLEEP 0", "AWAIT 0 0", "FAIL", "END 0"};
        for (int i = 0; i < behind.length; i++) {
            FlowEngine e = engine("UNDO 0 0", "CALL 1 1", behind[i]);
            e.start(0, 5);
            due(behind[i], answerGood(e, 0, 0), i + 1);
        }
        FlowEngine f = engine("CALL 1 1", "FAIL");
        f.start(0, 5);
        due("FAIL with nothing to undo", answerGood(f, 0, 0), FAILED);
        f.start(0, 5);
        f.take();
        change(f, 0, 0, "JUMP 0");
        due("broken by the replay", f.answer(1, true, 0), BROKEN);
        FlowEngine g = engine("UNDO 1 0", "FAIL");
        g.start(0, 5);
        g.take();
        due("wrong while it undoes", g.answer(0, false, 0), UNDOES);
    }

    private static void answerRefused() {
        says("REFUSED if there is no such WORKFLOW;");
        FlowEngine e = engine("CALL 1 1");
        e.start(0, 5);
        e.take();
        for (int w : WRONG) {
            due("workflow " + w, e.answer(w, true, 0), REFUSED);
        }
        for (int w = 1; w <= 5; w++) {
            due("not there", e.answer(w, false, 0), REFUSED);
        }
        e.remove(0);
        due("removed", e.answer(0, true, 0), REFUSED);
    }

    private static void answerNone() {
        says("NONE if no TASK of it is OUT.");
        FlowEngine e = engine("CALL 1 1", "AWAIT 0 0");
        e.start(0, 5);
        due("in the line", e.answer(0, true, 0), NONE);
        due("in the line", e.answer(0, false, 0), NONE);
        e.take();
        e.answer(0, false, 0);
        due("answered already", e.answer(0, false, 0), NONE);
        e.tick(2);
        e.take();
        e.tick(5);
        due("too late", e.answer(0, true, 0), NONE);
        e.tick(4);
        e.take();
        e.answer(0, true, 0);
        due("it awaits a signal, and has none", e.answer(0, true, 0), NONE);
        e.signal(0, 0, 0);
        due("it has ended", e.answer(0, true, 0), NONE);
        e.start(0, 5);
        e.start(0, 5);
        e.take();
        due("another's is out", e.answer(2, true, 0), NONE);
    }

    private static void tick() {
        says("`int tick(int n)`: TIME is n (1 to 20) more, TICK by TICK; in each one, when TIME is 1 more:");
        FlowEngine e = new FlowEngine();
        int time = 0;
        for (int n = 1; n <= 20; n++) {
            time += n;
            due("tick " + n, e.tick(n), time);
        }
        FlowEngine f = engine("SLEEP 0", "JUMP 0");
        f.start(0, 2);
        f.tick(1);
        due("START, SLEEPS", f.flow(0, 2), 2);
        f.tick(17);
        due("woken in each second tick", f.flow(0, 2), 20);
        due("WOKE is the 19th", f.entry(0, 18, 0), WOKE);
        f.tick(1);
        due("sleeps", f.flow(0, 0), SLEEPS);
        f.tick(1);
        due("broken in the 20th tick", f.flow(0, 0), BROKEN);
        FlowEngine g = engine("SET 0 3", "SLEEP 0", "CALL 0 0");
        put(g, 1, "SLEEP 0", "CALL 0 0");
        g.start(0, 0);
        g.start(1, 2);
        g.tick(20);
        line("one woken in tick 2 comes before one woken in tick 3", g, 1, 0);
    }

    private static void tickNotAnswered() {
        says("first those TASKS that are OUT and were taken 5 TICKS ago are not answered (by WORKFLOWS, the least "
                + "first);");
        FlowEngine e = engine("AWAIT 0 0", "CALL 0 0");
        for (int w = 0; w < 3; w++) {
            e.start(0, 0);
        }
        for (int w = 2; w >= 0; w--) {
            e.signal(w, 0, 0);
        }
        line("the greatest first", e, 2, 1, 0);
        for (int w = 2; w >= 0; w--) {
            due("take", e.take(), w);
        }
        e.tick(4);
        line("4 ticks", e);
        e.tick(1);
        line("by workflows, the least first", e, 0, 1, 2);

        FlowEngine f = engine("SLEEP 0", "CALL 0 0");
        put(f, 1, "CALL 0 0");
        f.start(0, 5);
        f.start(1, 0);
        f.take();
        f.tick(5);
        line("not answered first, then woken", f, 1, 0);

        FlowEngine g = engine("CALL 0 0");
        g.start(0, 0);
        g.start(0, 0);
        g.take();
        g.tick(1);
        g.take();
        g.tick(4);
        due("taken 5 ticks ago", g.flow(0, 9), 0);
        due("taken 4 ticks ago", g.flow(1, 9), 1);
        g.tick(1);
        due("taken 5 ticks ago", g.flow(1, 9), 0);
    }

    private static void tickWakes() {
        says("then each WORKFLOW that SLEEPS and has slept its TICKS is woken: WOKE is written, and it goes on "
                + "(the least first).");
        FlowEngine e = engine("SLEEP 0", "CALL 0 0");
        e.start(0, 1);
        e.start(0, 20);
        e.start(0, 3);
        e.remove(0);
        e.tick(17);
        due("slept 3", e.flow(2, 0), WAITS);
        e.start(0, 3);
        e.tick(2);
        due("slept 19 of 20", e.flow(1, 0), SLEEPS);
        due("slept 2 of 3", e.flow(0, 0), SLEEPS);
        e.tick(1);
        line("both are woken, the least first", e, 2, 0, 1);
        wrote("woke", e, 1, START, 0, 20, SLEPT, 20, 0, WOKE, 0, 0, WANTED, 0, 20);
        FlowEngine f = engine("SLEEP 0", "SLEEP 0", "AWAIT 0 0");
        f.start(0, 1);
        f.tick(1);
        due("it sleeps again in the same tick, since then", f.flow(0, 0), SLEEPS);
        f.tick(1);
        due("woken again", f.flow(0, 0), AWAITS);
        FlowEngine g = engine("SLEEP 0", "AWAIT 0 0");
        g.start(0, 3);
        g.forget(0);
        g.tick(2);
        due("one that is forgotten sleeps", g.count(5), 0);
        g.tick(1);
        due("and is woken by a replay", g.flow(0, 0), AWAITS);
        due("replays", g.count(5), 1);
    }

    private static void tickTime() {
        says("Answers TIME.");
        FlowEngine e = new FlowEngine();
        due("1", e.tick(1), 1);
        due("20 more", e.tick(20), 21);
        due("count 0", e.count(0), 21);
    }

    private static void tickRefused() {
        says("REFUSED for another n.");
        FlowEngine e = engine("SLEEP 0");
        e.start(0, 1);
        for (int n : new int[] {Integer.MIN_VALUE, -1, 0, 21, Integer.MAX_VALUE}) {
            due("tick " + n, e.tick(n), REFUSED);
        }
        due("time", e.count(0), 0);
        due("none is woken", e.flow(0, 0), SLEEPS);
    }

    private static void forget() {
        says("`boolean forget(int w)`: WORKFLOW w is FORGOTTEN: true;");
        String[] last = {"CALL 0 0", "SLEEP 0", "AWAIT 0 0", "FAIL"};
        for (int i = 0; i < last.length; i++) {
            FlowEngine e = engine("UNDO 0 0", last[i]);
            for (int w = 0; w < 6; w++) {
                e.start(0, 1);
            }
            due("forget 5", e.forget(5), true);
            due("forgotten", e.flow(5, 7), 1);
            due("its state stays", e.flow(5, 0), i + 1);
            due("forget 0", e.forget(0), true);
            due("another is remembered", e.flow(1, 7), 0);
        }
    }

    private static void forgetFalse() {
        says("false if it is not there, has ENDED, or is so already.");
        FlowEngine e = engine("AWAIT 0 0");
        for (int w : WRONG) {
            due("workflow " + w, e.forget(w), false);
        }
        for (int w = 0; w <= 5; w++) {
            due("not there", e.forget(w), false);
        }
        e.start(0, 0);
        due("forget", e.forget(0), true);
        due("it is so already", e.forget(0), false);
        e.signal(0, 1, 0);
        due("it is remembered again", e.forget(0), true);
        e.signal(0, 0, 0);
        due("it has ended", e.forget(0), false);
        e.remove(0);
        due("removed", e.forget(0), false);
        for (String last : new String[] {"END 0", "FAIL", "JUMP 0"}) {
            FlowEngine f = engine(last);
            f.start(0, 0);
            due("ended by " + last, f.forget(0), false);
            due("not forgotten", f.flow(0, 7), 0);
        }
        FlowEngine g = engine("AWAIT 0 0");
        g.start(0, 0);
        change(g, 0, 0, "AWAIT 0 0");
        due("forgotten by a change already", g.forget(0), false);
    }
}
