/** Promise 13: line. */
public final class LineTest {
    public static void main(String[] args) {
        FlowEngine e = Check.with(Check.in(Check.AWAIT, 0, 0), Check.in(Check.CALL, 0, 0));
        Check.line("empty", e);
        for (int w = 0; w < 6; w++) {
            e.start(0, w);
        }
        Check.line("none wants anything", e);
        int[] order = {3, 1, 5, 0, 4, 2};
        for (int w : order) {
            e.signal(w, 0, 0);
        }
        Check.line("in the order of wanting", e, order);
        Check.due("k 6", e.line(6), Check.NONE);
        Check.due("k -2", e.line(-2), Check.NONE);
        Check.due("k of the least int", e.line(Integer.MIN_VALUE), Check.NONE);
        Check.due("k of the greatest int", e.line(Integer.MAX_VALUE), Check.NONE);
        e.remove(5);
        e.take();
        Check.line("one removed, one out", e, 1, 0, 4, 2);
        e.answer(3, false, 0);
        Check.line("one that is before its time is in it", e, 1, 0, 4, 2, 3);
        e.take();
        e.answer(1, true, 0);
        Check.line("one that was answered is gone", e, 0, 4, 2, 3);
        e.change(0, 0, Check.AWAIT, 1, 0);
        e.signal(4, 0, 0);
        Check.due("broken", e.flow(4, 0), Check.BROKEN);
        Check.line("one of a broken workflow is gone", e, 0, 2, 3);
        Check.end();
    }
}
