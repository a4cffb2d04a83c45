/** Promise 5: remove. */
public final class RemoveTest {
    public static void main(String[] args) {
        FlowEngine e = Check.with(Check.in(Check.CALL, 2, 0), Check.in(Check.AWAIT, 0, 0));
        for (int w = 0; w < 3; w++) {
            e.start(0, w);
        }
        e.signal(1, 0, 4);
        Check.due("remove -1", e.remove(-1), false);
        Check.due("remove 6", e.remove(6), false);
        Check.due("remove one that is not there", e.remove(3), false);
        Check.due("remove", e.remove(1), true);
        Check.due("again", e.remove(1), false);
        Check.line("its task is gone", e, 0, 2);
        for (int what = 0; what <= 13; what++) {
            Check.due("flow " + what, e.flow(1, what), 0);
        }
        Check.due("its history is gone", e.entry(1, 0, 0), Check.NONE);
        Check.due("there are two", e.count(1), 2);
        Check.due("start", e.start(0, 7), 1);
        Check.due("no signal is kept for the new one", e.flow(1, 6), 0);
        Check.history("new history", e, 1, Check.in(Check.START, 0, 7), Check.in(Check.WANTED, 2, 7));
        outTask();
        ended();
        sleeping();
        Check.end();
    }

    private static void outTask() {
        FlowEngine e = Check.with(Check.in(Check.CALL, 2, 0));
        e.start(0, 0);
        e.take();
        e.remove(0);
        Check.due("answer to a removed one", e.answer(0, true, 1), Check.REFUSED);
        Check.due("tick", e.tick(5), 5);
        Check.due("its task does not come back", e.line(-1), 0);
        Check.due("start", e.start(0, 0), 0);
        Check.due("the old answer is not for the new one", e.answer(0, true, 1), Check.NONE);
        Check.due("tries are new", e.flow(0, 8), 0);
    }

    private static void ended() {
        FlowEngine e = new FlowEngine();
        e.start(0, 6);
        Check.due("remove one that has ended", e.remove(0), true);
        Check.due("DONE so far", e.count(7), 1);
        Check.due("there are none", e.count(1), 0);
    }

    private static void sleeping() {
        FlowEngine e = Check.with(Check.in(Check.SLEEP, 0, 0));
        e.start(0, 2);
        e.forget(0);
        e.remove(0);
        e.tick(3);
        Check.due("none is woken", e.count(7), 0);
        Check.due("none is replayed", e.count(5), 0);
        Check.due("state", e.flow(0, 0), 0);
        e.start(0, 2);
        Check.due("a new one is remembered", e.flow(0, 7), 0);
    }
}
