/** Promise 3: change. */
public final class ChangeTest {
    public static void main(String[] args) {
        wrongNumbers();
        changes();
        forgets();
        Check.end();
    }

    private static void wrongNumbers() {
        FlowEngine e = Check.with(Check.in(Check.SET, 0, 1), Check.in(Check.AWAIT, 0, 0));
        e.start(0, 0);
        Check.due("program -1", e.change(-1, 0, 0, 0, 0), false);
        Check.due("program 3", e.change(3, 0, 0, 0, 0), false);
        Check.due("no such instruction", e.change(0, 2, 0, 0, 0), false);
        Check.due("instruction -1", e.change(0, -1, 0, 0, 0), false);
        Check.due("none in this program", e.change(1, 0, 0, 0, 0), false);
        Check.due("op 11", e.change(0, 0, 11, 0, 0), false);
        Check.due("op -1", e.change(0, 0, -1, 0, 0), false);
        Check.due("variable 4", e.change(0, 0, Check.SET, 4, 0), false);
        Check.due("place 15", e.change(0, 0, Check.JUMP, 15, 0), false);
        Check.due("place 15 of ZERO", e.change(0, 0, Check.ZERO, 0, 15), false);
        Check.due("kind -1", e.change(0, 0, Check.CALL, -1, 0), false);
        Check.due("forgets none", e.flow(0, 7), 0);
        Check.due("a later start", e.start(0, 0), 1);
        Check.due("finds the old instruction", e.flow(1, 10), 1);
    }

    private static void changes() {
        FlowEngine e = Check.with(Check.in(Check.SET, 0, 1), Check.in(Check.SET, 1, 2), Check.in(Check.END, 0, 0));
        Check.due("change", e.change(0, 0, Check.SET, 0, 7), true);
        Check.due("change of the last", e.change(0, 2, Check.END, 1, -5), true);
        Check.due("size", e.count(10), 3);
        e.start(0, 0);
        Check.due("variable 0", e.flow(0, 10), 7);
        Check.due("outcome", e.flow(0, 5), 2);
        Check.due("what is not named", e.change(0, 0, Check.FAIL, 99, -99), true);
        e.start(0, 0);
        Check.due("state", e.flow(1, 0), Check.FAILED);
    }

    private static void forgets() {
        FlowEngine e = Check.with(Check.in(Check.AWAIT, 0, 0));
        Check.program(e, 1, Check.in(Check.AWAIT, 0, 0));
        e.start(0, 0);
        e.start(1, 0);
        e.start(0, 0);
        e.signal(2, 0, 5);
        Check.due("change to the same", e.change(0, 0, Check.AWAIT, 0, 0), true);
        Check.due("of the program", e.flow(0, 7), 1);
        Check.due("of another program", e.flow(1, 7), 0);
        Check.due("that has ended", e.flow(2, 7), 0);
        Check.due("nothing was replayed yet", e.count(5), 0);
    }
}
