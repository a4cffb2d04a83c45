/** Promise 7: take. */
public final class TakeTest {
    public static void main(String[] args) {
        FlowEngine e = Check.with(Check.in(Check.CALL, 0, 0));
        Check.due("none", e.take(), Check.NONE);
        e.start(0, 0);
        e.start(0, 0);
        e.start(0, 0);
        Check.due("the first", e.take(), 0);
        Check.due("tries", e.flow(0, 8), 1);
        Check.due("out", e.flow(0, 9), 1);
        Check.line("it is not in the line", e, 1, 2);
        Check.due("wrong", e.answer(0, false, 0), Check.WAITS);
        Check.due("tries stay", e.flow(0, 8), 1);
        Check.due("not out", e.flow(0, 9), 0);
        Check.line("at the end", e, 1, 2, 0);
        Check.due("the next", e.take(), 1);
        Check.due("the last but one", e.take(), 2);
        Check.due("before its time", e.take(), Check.NONE);
        Check.due("take of none changes nothing", e.flow(0, 8), 1);
        e.tick(2);
        Check.due("at its time", e.take(), 0);
        Check.due("tries", e.flow(0, 8), 2);
        passesBy();
        forgotten();
        Check.end();
    }

    /** A task that is before its time is passed by. */
    private static void passesBy() {
        FlowEngine e = Check.with(Check.in(Check.CALL, 0, 0));
        e.start(0, 0);
        e.take();
        e.answer(0, false, 0);
        e.start(0, 0);
        Check.line("line", e, 0, 1);
        Check.due("the second", e.take(), 1);
        e.answer(1, true, 0);
        e.tick(1);
        Check.due("2 ticks are not over", e.take(), Check.NONE);
        e.tick(1);
        Check.due("2 ticks are over", e.take(), 0);
        e.answer(0, false, 0);
        e.tick(3);
        Check.due("4 ticks are not over", e.take(), Check.NONE);
        e.tick(1);
        Check.due("4 ticks are over", e.take(), 0);
        Check.due("tries", e.flow(0, 8), 3);
    }

    private static void forgotten() {
        FlowEngine e = Check.with(Check.in(Check.CALL, 0, 0));
        e.start(0, 0);
        e.forget(0);
        Check.due("of a forgotten one", e.take(), 0);
        Check.due("is forgotten still", e.flow(0, 7), 1);
        Check.due("no replay", e.count(5), 0);
    }
}
