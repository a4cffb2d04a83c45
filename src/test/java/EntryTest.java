/** Promise 12: entry. */
public final class EntryTest {
    public static void main(String[] args) {
        FlowEngine e = new FlowEngine();
        Check.program(e, 2, Check.in(Check.CALL, 3, 0), Check.in(Check.SLEEP, 0, 0), Check.in(Check.AWAIT, 2, 1),
                Check.in(Check.UNDO, 1, 1), Check.in(Check.FAIL, 0, 0));
        e.start(2, -5);
        e.take();
        e.answer(0, true, 4);
        e.tick(4);
        e.signal(0, 2, 77);
        for (int pause : new int[] {2, 4, 1}) {
            e.take();
            e.answer(0, false, 0);
            e.tick(pause);
        }
        Check.history("all sorts", e, 0, Check.in(Check.START, 2, -5), Check.in(Check.WANTED, 3, -5),
                Check.in(Check.RESULT, 3, 4), Check.in(Check.SLEPT, 4, 0), Check.in(Check.WOKE, 0, 0),
                Check.in(Check.SIGNAL, 2, 77), Check.in(Check.WANTED, 1, 77), Check.in(Check.LOST, 1, 0));
        Check.due("k -1", e.entry(0, -1, 0), Check.NONE);
        Check.due("k 20", e.entry(0, 20, 0), Check.NONE);
        Check.due("k of the greatest int", e.entry(0, Integer.MAX_VALUE, 0), Check.NONE);
        Check.due("not there", e.entry(1, 0, 0), Check.NONE);
        Check.due("w -1", e.entry(-1, 0, 0), Check.REFUSED);
        Check.due("w 6", e.entry(6, 0, 0), Check.REFUSED);
        Check.due("what -1", e.entry(0, 0, -1), Check.REFUSED);
        Check.due("what 3", e.entry(0, 0, 3), Check.REFUSED);
        Check.due("what 3, and no such entry", e.entry(0, 50, 3), Check.REFUSED);
        Check.due("what 3, and not there", e.entry(1, 0, 3), Check.REFUSED);
        e.remove(0);
        Check.due("removed", e.entry(0, 0, 0), Check.NONE);
        Check.end();
    }
}
