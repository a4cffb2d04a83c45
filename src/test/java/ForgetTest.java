/** Promise 10: forget, and what a replay does. */
public final class ForgetTest {
    public static void main(String[] args) {
        answers();
        madeAgain();
        nextEntryIsAnother();
        waitsForAnother();
        endedWithEntriesLeft();
        stepsInReplay();
        goesOnBehindReplay();
        becomesUndo();
        notedAnew();
        Check.end();
    }

    private static void answers() {
        FlowEngine e = Check.with(Check.in(Check.AWAIT, 0, 0));
        Check.due("not there", e.forget(0), false);
        Check.due("-1", e.forget(-1), false);
        Check.due("6", e.forget(6), false);
        e.start(0, 4);
        Check.due("forget", e.forget(0), true);
        Check.due("is forgotten", e.flow(0, 7), 1);
        Check.due("again", e.forget(0), false);
        e.signal(0, 1, 0);
        Check.due("behind a replay", e.forget(0), true);
        e.signal(0, 0, 0);
        Check.due("has ended", e.forget(0), false);
        Check.due("and is not forgotten", e.flow(0, 7), 0);
    }

    private static void madeAgain() {
        FlowEngine e = Check.with(
                Check.in(Check.UNDO, 2, 0), Check.in(Check.CALL, 1, 1), Check.in(Check.SLEEP, 1, 0),
                Check.in(Check.AWAIT, 3, 2), Check.in(Check.UNDO, 3, 2), Check.in(Check.AWAIT, 0, 3));
        e.start(0, 9);
        e.take();
        e.answer(0, true, 2);
        e.tick(2);
        e.signal(0, 3, 8);
        e.forget(0);
        Check.due("replay", e.signal(0, 2, 1), 0);
        int[] variables = {9, 2, 8, 0};
        for (int v = 0; v < 4; v++) {
            Check.due("variable " + v, e.flow(0, 10 + v), variables[v]);
        }
        Check.due("place", e.flow(0, 3), 5);
        Check.due("noted", e.flow(0, 4), 2);
        Check.due("entries", e.flow(0, 2), 6);
        Check.due("no task is made again", e.line(-1), 0);
        Check.due("UNDO, CALL, SLEEP, AWAIT", e.count(4), 4);
        Check.due("six, and UNDO and AWAIT again", e.count(3), 8);
    }

    private static void nextEntryIsAnother() {
        int[][] others = {
            Check.in(Check.CALL, 2, 0), Check.in(Check.CALL, 1, 1), Check.in(Check.SLEEP, 0, 0),
            Check.in(Check.AWAIT, 1, 0), Check.in(Check.END, 0, 0), Check.in(Check.FAIL, 0, 0)};
        for (int[] other : others) {
            FlowEngine e = Check.with(Check.in(Check.CALL, 1, 0), Check.in(Check.AWAIT, 0, 0));
            e.start(0, 1);
            e.take();
            e.change(0, 0, other[0], other[1], other[2]);
            Check.due("op " + other[0], e.answer(0, true, 5), Check.BROKEN);
            Check.due("it counts as a replayed one", e.count(4), 1);
            Check.due("history stays", e.flow(0, 2), 2);
            Check.due("broken", e.count(9), 1);
            Check.due("not done", e.count(7), 0);
            Check.due("not failed", e.count(8), 0);
            Check.due("no outcome", e.flow(0, 5), 0);
        }
        FlowEngine g = Check.with(Check.in(Check.CALL, 1, 1), Check.in(Check.AWAIT, 0, 0));
        g.start(0, 1);
        g.take();
        g.change(0, 0, Check.SLEEP, 0, 0);
        Check.due("SLEEPS 1 0 is not WANTED 1 0", g.answer(0, true, 5), Check.BROKEN);

        FlowEngine f = Check.with(Check.in(Check.SLEEP, 0, 0));
        f.start(0, 3);
        f.change(0, 0, Check.SET, 0, 4);
        f.add(0, Check.SLEEP, 0, 0);
        f.signal(0, 0, 0);
        Check.due("4 ticks, not 3", f.flow(0, 0), Check.BROKEN);
        Check.due("variable as it was then", f.flow(0, 10), 4);
    }

    private static void waitsForAnother() {
        FlowEngine e = Check.with(Check.in(Check.AWAIT, 1, 0), Check.in(Check.AWAIT, 0, 0));
        e.start(0, 0);
        e.signal(0, 1, 6);
        e.change(0, 0, Check.AWAIT, 2, 0);
        Check.due("another signal", e.signal(0, 0, 0), 0);
        Check.due("broken", e.flow(0, 0), Check.BROKEN);
        Check.due("a kept one does not help", e.flow(0, 10), 0);

        FlowEngine f = Check.with(Check.in(Check.AWAIT, 1, 0), Check.in(Check.AWAIT, 0, 0));
        f.start(0, 0);
        f.signal(0, 2, 7);
        f.signal(0, 1, 6);
        f.change(0, 0, Check.AWAIT, 2, 0);
        f.signal(0, 0, 0);
        Check.due("not by a kept one as long as entries are left", f.flow(0, 0), Check.BROKEN);
        Check.due("which is kept still", f.flow(0, 6), 1);

        FlowEngine g = Check.with(Check.in(Check.AWAIT, 0, 0), Check.in(Check.CALL, 1, 1));
        g.start(0, 0);
        g.signal(0, 0, 5);
        g.signal(0, 0, 6);
        g.take();
        g.forget(0);
        Check.due("what is written comes before what is kept", g.answer(0, true, 3), Check.DONE);
        Check.due("value of the written one", g.flow(0, 5), 5);
        Check.due("the other is kept still", g.flow(0, 6), 1);
    }

    private static void endedWithEntriesLeft() {
        FlowEngine e = Check.with(Check.in(Check.CALL, 0, 0), Check.in(Check.CALL, 1, 1));
        e.start(0, 2);
        e.take();
        e.answer(0, true, 3);
        e.take();
        e.change(0, 1, Check.END, 0, 0);
        Check.due("END with entries left", e.answer(0, true, 0), Check.BROKEN);
        Check.due("replayed: CALL and END", e.count(4), 2);
        Check.due("variable as it was then", e.flow(0, 10), 3);
        Check.due("outcome", e.flow(0, 5), 0);
    }

    private static void stepsInReplay() {
        int[][] loop = {
            Check.in(Check.SET, 1, -1), Check.in(Check.ZERO, 0, 4), Check.in(Check.ADD, 0, 1),
            Check.in(Check.JUMP, 1, 0), Check.in(Check.AWAIT, 0, 0), Check.in(Check.JUMP, 0, 0)};
        FlowEngine e = Check.with(loop);
        e.start(0, 18);
        for (int i = 0; i < 3; i++) {
            e.signal(0, 0, 18);
        }
        int own = e.count(3);
        Check.due("57 and 58 thrice", own, 57 + 3 * 58);
        e.forget(0);
        Check.due("kept", e.signal(0, 1, 0), 0);
        Check.due("60 again behind each entry", e.flow(0, 0), Check.AWAITS);
        Check.due("replayed", e.count(4), 57 + 2 * 58);
        Check.due("the last ones are not", e.count(3), own + 58);

        FlowEngine f = Check.with(loop);
        f.start(0, 0);
        f.signal(0, 0, 18);
        f.signal(0, 0, 19);
        Check.due("61 steps", f.flow(0, 0), Check.BROKEN);

        FlowEngine g = Check.with(loop);
        g.start(0, 18);
        g.signal(0, 0, 3);
        g.change(0, 0, Check.JUMP, 0, 0);
        g.signal(0, 0, 3);
        Check.due("a 61st step in a replay", g.flow(0, 0), Check.BROKEN);
        Check.due("60 of them are counted", g.count(4), 60);
    }

    private static void goesOnBehindReplay() {
        FlowEngine e = Check.with(Check.in(Check.AWAIT, 0, 0), Check.in(Check.AWAIT, 1, 0));
        e.start(0, 0);
        e.signal(0, 0, 5);
        e.add(0, Check.END, 0, 0);
        e.change(0, 1, Check.CALL, 3, 0);
        Check.due("state that it had", e.flow(0, 0), Check.AWAITS);
        Check.due("kept", e.signal(0, 1, 6), 0);
        Check.due("it waits now", e.flow(0, 0), Check.WAITS);
        Check.history("goes on", e, 0, Check.in(Check.START, 0, 0), Check.in(Check.SIGNAL, 0, 5), Check.in(Check.WANTED, 3, 5));
        Check.line("a task", e, 0);
    }

    /** The same activity can be wanted by CALL when it was written, and to undo in the replay, or the other way. */
    private static void becomesUndo() {
        FlowEngine e = Check.with(Check.in(Check.SET, 1, 1), Check.in(Check.CALL, 2, 0), Check.in(Check.END, 0, 0));
        e.start(0, 7);
        e.take();
        e.change(0, 0, Check.UNDO, 2, 0);
        e.change(0, 1, Check.FAIL, 0, 0);
        Check.due("to undo now", e.answer(0, true, 5), Check.FAILED);
        Check.due("its result goes nowhere", e.flow(0, 10), 7);

        FlowEngine f = Check.with(Check.in(Check.UNDO, 2, 0), Check.in(Check.FAIL, 0, 0), Check.in(Check.END, 0, 0));
        f.start(0, 7);
        Check.due("undoes", f.flow(0, 0), Check.UNDOES);
        f.take();
        f.change(0, 0, Check.SET, 1, 1);
        f.change(0, 1, Check.CALL, 2, 0);
        Check.due("a CALL now", f.answer(0, true, 5), Check.DONE);
        Check.due("its result is the outcome", f.flow(0, 5), 5);
    }

    private static void notedAnew() {
        FlowEngine e = Check.with(
                Check.in(Check.UNDO, 0, 0), Check.in(Check.UNDO, 1, 0), Check.in(Check.UNDO, 2, 0), Check.in(Check.FAIL, 0, 0));
        e.start(0, 1);
        e.take();
        e.answer(0, true, 0);
        e.forget(0);
        Check.due("place is not told", e.flow(0, 3), Check.NONE);
        e.signal(0, 0, 0);
        Check.due("undoes", e.flow(0, 0), Check.UNDOES);
        Check.due("one is left", e.flow(0, 4), 1);
        Check.due("place at which it failed", e.flow(0, 3), 3);
        e.take();
        Check.due("answer", e.answer(0, true, 0), Check.UNDOES);
        e.take();
        e.forget(0);
        Check.due("answer", e.answer(0, true, 0), Check.FAILED);
        Check.due("UNDO thrice and FAIL, in two replays", e.count(4), 8);
    }
}
