/** Promise 11: flow. */
public final class FlowTest {
    public static void main(String[] args) {
        FlowEngine e = Check.with(
                Check.in(Check.UNDO, 0, 0), Check.in(Check.SET, 3, -4), Check.in(Check.CALL, 1, 1), Check.in(Check.END, 3, 0));
        e.start(1, 2);
        e.start(0, 8);
        e.signal(1, 2, 2);
        e.take();
        all("waits", e, 1, Check.WAITS, 0, 2, 2, 1, 0, 1, 0, 1, 1, 8, 0, 0, -4);
        e.forget(1);
        all("forgotten", e, 1, Check.WAITS, 0, 2, Check.NONE, Check.NONE, 0, 1, 1, 1, 1, 0, 0, 0, 0);
        e.answer(1, true, 6);
        all("done", e, 1, Check.DONE, 0, 3, Check.NONE, Check.NONE, -4, 1, 0, 0, 0, 8, 6, 0, -4);
        all("done at once", e, 0, Check.DONE, 1, 1, Check.NONE, Check.NONE, 2, 0, 0, 0, 0, 2, 0, 0, 0);
        all("not there", e, 2, 0, 0, 0, 0, 0, 0, 0, 0, 0, 0, 0, 0, 0, 0);
        wrongNumbers(e);
        failed();
        Check.end();
    }

    private static void all(String what, FlowEngine e, int w, int... want) {
        for (int i = 0; i < want.length; i++) {
            Check.due(what + ", flow " + i, e.flow(w, i), want[i]);
        }
    }

    private static void wrongNumbers(FlowEngine e) {
        for (int w : new int[] {0, 3}) {
            Check.due("what -1", e.flow(w, -1), Check.REFUSED);
            Check.due("what 14", e.flow(w, 14), Check.REFUSED);
        }
        Check.due("w -1", e.flow(-1, 0), Check.REFUSED);
        Check.due("w 6", e.flow(6, 0), Check.REFUSED);
        Check.due("w of the greatest int", e.flow(Integer.MAX_VALUE, 0), Check.REFUSED);
    }

    private static void failed() {
        FlowEngine e = Check.with(Check.in(Check.SET, 1, 5), Check.in(Check.UNDO, 3, 1), Check.in(Check.FAIL, 0, 0));
        e.start(0, 1);
        all("undoes", e, 0, Check.UNDOES, 0, 2, 2, 0, 0, 0, 0, 0, 0, 1, 5, 0, 0);
        e.take();
        e.answer(0, true, 9);
        all("failed", e, 0, Check.FAILED, 0, 3, Check.NONE, Check.NONE, 0, 0, 0, 0, 0, 1, 5, 0, 0);
        FlowEngine f = Check.with(Check.in(Check.FAIL, 0, 0));
        f.start(0, 4);
        all("failed at once", f, 0, Check.FAILED, 0, 1, Check.NONE, Check.NONE, 0, 0, 0, 0, 0, 4, 0, 0, 0);
    }
}
