/** Promise 6: signal. */
public final class SignalTest {
    public static void main(String[] args) {
        wrongNumbers();
        awaited();
        kept();
        full();
        keptTakesNoNewCount();
        noRoom();
        noRoomForKept();
        forgotten();
        endedByReplay();
        Check.end();
    }

    private static void wrongNumbers() {
        FlowEngine e = Check.with(Check.in(Check.AWAIT, 0, 0));
        e.start(0, 0);
        Check.due("workflow -1", e.signal(-1, 0, 0), Check.REFUSED);
        Check.due("workflow 6", e.signal(6, 0, 0), Check.REFUSED);
        Check.due("workflow not there", e.signal(1, 0, 0), Check.REFUSED);
        Check.due("signal -1", e.signal(0, -1, 0), Check.REFUSED);
        Check.due("signal 4", e.signal(0, 4, 0), Check.REFUSED);
        Check.due("nothing kept", e.flow(0, 6), 0);
        Check.due("signal", e.signal(0, 0, 0), 1);
        Check.due("to one that has ended", e.signal(0, 0, 0), Check.NONE);
        Check.due("wrong signal to one that has ended", e.signal(0, 4, 0), Check.REFUSED);
    }

    private static void awaited() {
        FlowEngine e = Check.with(Check.in(Check.AWAIT, 3, 2), Check.in(Check.END, 2, 0));
        e.start(0, 1);
        Check.due("state", e.flow(0, 0), Check.AWAITS);
        Check.due("nothing is written", e.flow(0, 2), 1);
        Check.due("signal", e.signal(0, 3, -9), 1);
        Check.due("outcome", e.flow(0, 5), -9);
        Check.history("awaited", e, 0, Check.in(Check.START, 0, 1), Check.in(Check.SIGNAL, 3, -9));
    }

    private static void kept() {
        FlowEngine e = Check.with(
                Check.in(Check.AWAIT, 0, 0), Check.in(Check.AWAIT, 1, 1),
                Check.in(Check.AWAIT, 1, 2), Check.in(Check.AWAIT, 2, 3));
        e.start(0, 0);
        Check.due("another signal", e.signal(0, 1, 10), 0);
        Check.due("another signal", e.signal(0, 3, 30), 0);
        Check.due("the same again", e.signal(0, 1, 11), 0);
        Check.due("kept", e.flow(0, 6), 3);
        Check.due("the awaited one", e.signal(0, 0, 5), 1);
        Check.due("goes on to the last AWAIT", e.flow(0, 3), 3);
        Check.due("the oldest first", e.flow(0, 11), 10);
        Check.due("then the next", e.flow(0, 12), 11);
        Check.due("one is kept still", e.flow(0, 6), 1);
        Check.history("kept", e, 0, Check.in(Check.START, 0, 0), Check.in(Check.SIGNAL, 0, 5),
                Check.in(Check.SIGNAL, 1, 10), Check.in(Check.SIGNAL, 1, 11));
    }

    private static void full() {
        FlowEngine e = Check.with(Check.in(Check.AWAIT, 0, 0));
        e.start(0, 0);
        for (int i = 0; i < 4; i++) {
            Check.due("keep", e.signal(0, 1, i), 0);
        }
        Check.due("a fifth", e.signal(0, 1, 4), Check.FULL);
        Check.due("the awaited one", e.signal(0, 0, 4), Check.FULL);
        e.forget(0);
        Check.due("of a forgotten one", e.signal(0, 0, 4), Check.FULL);
        Check.due("is not replayed", e.count(5), 0);
        Check.due("is forgotten still", e.flow(0, 7), 1);
        Check.due("wrong signal", e.signal(0, 4, 4), Check.REFUSED);
        Check.due("kept", e.flow(0, 6), 4);
    }

    /** A kept signal is taken without waiting, so the steps before it count along. */
    private static void keptTakesNoNewCount() {
        int[] steps = {17, 18};
        int[] states = {Check.AWAITS, Check.BROKEN};
        int[] done = {1 + 3 + 57, 1 + 60};
        for (int i = 0; i < 2; i++) {
            FlowEngine e = Check.with(
                    Check.in(Check.CALL, 0, 0), Check.in(Check.SET, 1, -1), Check.in(Check.ZERO, 0, 5),
                    Check.in(Check.ADD, 0, 1), Check.in(Check.JUMP, 2, 0),
                    Check.in(Check.AWAIT, 0, 0), Check.in(Check.SET, 2, 1), Check.in(Check.SET, 2, 1), Check.in(Check.JUMP, 1, 0));
            e.start(0, 0);
            e.signal(0, 0, steps[i]);
            e.take();
            Check.due("3 steps, then 6 and 3 a round", e.answer(0, true, 0), states[i]);
            Check.due("steps", e.count(3), done[i]);
        }
    }

    private static void noRoom() {
        FlowEngine e = Check.with(Check.in(Check.AWAIT, 0, 0), Check.in(Check.JUMP, 0, 0));
        e.start(0, 0);
        for (int i = 1; i < 20; i++) {
            Check.due("signal", e.signal(0, 0, i), 1);
        }
        Check.due("20 entries", e.flow(0, 2), 20);
        Check.due("awaits", e.flow(0, 0), Check.AWAITS);
        Check.due("another is kept", e.signal(0, 1, 1), 0);
        Check.due("a 21st", e.signal(0, 0, 20), 1);
        Check.due("is broken", e.flow(0, 0), Check.BROKEN);
        Check.due("20 entries still", e.flow(0, 2), 20);
        Check.due("variable is the last value written", e.flow(0, 10), 19);
        Check.due("the other is kept still", e.flow(0, 6), 1);
        Check.due("broken", e.count(9), 1);
    }

    private static void noRoomForKept() {
        FlowEngine e = Check.with(Check.in(Check.AWAIT, 0, 0), Check.in(Check.SET, 1, 1), Check.in(Check.ADD, 2, 1),
                Check.in(Check.SET, 1, 19), Check.in(Check.LESS, 3, 3), Check.in(Check.SET, 3, 0),
                Check.in(Check.ADD, 3, 2), Check.in(Check.LESS, 3, 1), Check.in(Check.ZERO, 3, 10),
                Check.in(Check.JUMP, 0, 0), Check.in(Check.AWAIT, 1, 3));
        e.start(0, 0);
        e.signal(0, 1, 77);
        for (int i = 1; i < 20; i++) {
            Check.due("signal " + i, e.signal(0, 0, i), 1);
        }
        Check.due("no room for the kept one", e.flow(0, 0), Check.BROKEN);
        Check.due("it stays kept", e.flow(0, 6), 1);
        Check.due("variable is not its value", e.flow(0, 13), 0);
        Check.due("entries", e.flow(0, 2), 20);
    }

    private static void forgotten() {
        FlowEngine e = Check.with(Check.in(Check.SET, 1, 4), Check.in(Check.AWAIT, 0, 0), Check.in(Check.AWAIT, 1, 2));
        e.start(0, 0);
        e.forget(0);
        Check.due("kept", e.signal(0, 1, 8), 0);
        Check.due("by then it is remembered", e.flow(0, 7), 0);
        Check.due("one replay", e.count(5), 1);
        e.forget(0);
        Check.due("written", e.signal(0, 0, 9), 1);
        Check.due("two replays", e.count(5), 2);
        Check.due("done", e.flow(0, 0), Check.DONE);
        Check.due("none was replayed: no entry was left", e.count(4), 0);
        Check.due("SET and AWAIT three times, AWAIT, END", e.count(3), 8);

        FlowEngine f = Check.with(Check.in(Check.AWAIT, 0, 0), Check.in(Check.AWAIT, 0, 1));
        f.start(0, 0);
        f.signal(0, 1, 5);
        f.change(0, 0, Check.AWAIT, 1, 3);
        Check.due("it awaits 0 behind the kept 1", f.signal(0, 0, 6), 1);
        Check.due("value of the kept one", f.flow(0, 13), 5);
        Check.due("value of the new one", f.flow(0, 11), 6);
        Check.due("none kept", f.flow(0, 6), 0);
    }

    private static void endedByReplay() {
        FlowEngine e = Check.with(Check.in(Check.AWAIT, 0, 0));
        e.start(0, 2);
        e.change(0, 0, Check.END, 0, 0);
        Check.due("done by the replay", e.signal(0, 0, 9), 0);
        Check.due("state", e.flow(0, 0), Check.DONE);
        Check.due("outcome", e.flow(0, 5), 2);
        Check.due("nothing kept", e.flow(0, 6), 0);
        Check.due("nothing written", e.flow(0, 2), 1);

        FlowEngine f = Check.with(Check.in(Check.AWAIT, 0, 0));
        f.start(0, 2);
        f.change(0, 0, Check.CALL, 3, 0);
        Check.due("wants an activity by the replay", f.signal(0, 0, 9), 0);
        Check.due("state", f.flow(0, 0), Check.WAITS);
        Check.due("kept", f.flow(0, 6), 1);
        Check.line("a task is made", f, 0);
    }
}
