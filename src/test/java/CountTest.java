/** Promise 14: count. */
public final class CountTest {
    public static void main(String[] args) {
        FlowEngine e = Check.with(Check.in(Check.AWAIT, 0, 0), Check.in(Check.ZERO, 0, 4),
                Check.in(Check.CALL, 0, 0), Check.in(Check.JUMP, 0, 0), Check.in(Check.FAIL, 0, 0));
        Check.program(e, 1, Check.in(Check.JUMP, 0, 0));
        Check.program(e, 2, Check.in(Check.SET, 0, 1), Check.in(Check.END, 0, 0));
        for (int w = 0; w < 4; w++) {
            e.start(0, w);
        }
        e.start(1, 0);
        e.start(2, 0);
        all("started", e, 0, 6, 4, 66, 0, 0, 0, 1, 0, 1, 5, 1, 2);
        e.signal(0, 0, 0);
        e.signal(1, 0, 1);
        all("one failed, one waits", e, 0, 6, 3, 70, 0, 0, 0, 1, 1, 1, 5, 1, 2);
        e.forget(1);
        e.signal(1, 1, 0);
        all("AWAIT, ZERO, CALL replayed", e, 0, 6, 3, 70, 3, 1, 0, 1, 1, 1, 5, 1, 2);
        e.take();
        e.tick(7);
        e.take();
        e.tick(9);
        e.take();
        e.tick(5);
        all("lost", e, 21, 6, 2, 70, 3, 1, 1, 1, 2, 1, 5, 1, 2);
        e.remove(1);
        e.remove(2);
        all("removed", e, 21, 4, 1, 70, 3, 1, 1, 1, 2, 1, 5, 1, 2);
        e.add(2, Check.FAIL, 0, 0);
        Check.due("instructions of program 2", e.count(12), 3);
        Check.due("-1", e.count(-1), Check.REFUSED);
        Check.due("13", e.count(13), Check.REFUSED);
        Check.due("least int", e.count(Integer.MIN_VALUE), Check.REFUSED);
        Check.due("greatest int", e.count(Integer.MAX_VALUE), Check.REFUSED);
        lostOnlyWhenWritten();
        Check.end();
    }

    private static void all(String what, FlowEngine e, int... want) {
        for (int i = 0; i < want.length; i++) {
            Check.due(what + ", count " + i, e.count(i), want[i]);
        }
    }

    /** A task whose workflow is broken before LOST can be written is gone, not lost. */
    private static void lostOnlyWhenWritten() {
        FlowEngine e = Check.with(Check.in(Check.CALL, 0, 0));
        e.start(0, 0);
        e.take();
        e.tick(7);
        e.take();
        e.tick(9);
        e.take();
        e.change(0, 0, Check.CALL, 1, 0);
        e.tick(5);
        Check.due("broken", e.flow(0, 0), Check.BROKEN);
        Check.due("not lost", e.count(6), 0);
    }
}
