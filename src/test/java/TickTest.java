/** Promise 9: tick. */
public final class TickTest {
    public static void main(String[] args) {
        numbers();
        sleeping();
        longSleep();
        notAnswered();
        orders();
        tickByTick();
        forgotten();
        sleepsSince();
        noRoomForWoke();
        Check.end();
    }

    private static void numbers() {
        FlowEngine e = new FlowEngine();
        Check.due("0", e.tick(0), Check.REFUSED);
        Check.due("21", e.tick(21), Check.REFUSED);
        Check.due("-1", e.tick(-1), Check.REFUSED);
        Check.due("least int", e.tick(Integer.MIN_VALUE), Check.REFUSED);
        Check.due("time", e.count(0), 0);
        Check.due("1", e.tick(1), 1);
        Check.due("20", e.tick(20), 21);
        Check.due("time", e.count(0), 21);
    }

    private static void sleeping() {
        FlowEngine e = Check.with(Check.in(Check.SLEEP, 0, 0), Check.in(Check.AWAIT, 0, 0));
        e.tick(7);
        e.start(0, 3);
        e.tick(2);
        Check.due("sleeps", e.flow(0, 0), Check.SLEEPS);
        Check.due("place", e.flow(0, 3), 0);
        e.tick(1);
        Check.due("woken", e.flow(0, 0), Check.AWAITS);
        Check.due("variable stays", e.flow(0, 10), 3);
        Check.history("woken", e, 0, Check.in(Check.START, 0, 3), Check.in(Check.SLEPT, 3, 0), Check.in(Check.WOKE, 0, 0));
    }

    private static void longSleep() {
        FlowEngine e = Check.with(Check.in(Check.SLEEP, 0, 0));
        e.tick(1);
        e.start(0, Integer.MAX_VALUE);
        e.tick(20);
        Check.due("sleeps for long", e.flow(0, 0), Check.SLEEPS);
    }

    private static void notAnswered() {
        FlowEngine e = Check.with(Check.in(Check.CALL, 0, 0));
        e.start(0, 0);
        e.take();
        e.tick(4);
        Check.due("out", e.flow(0, 9), 1);
        e.tick(1);
        Check.due("not out", e.flow(0, 9), 0);
        Check.due("tries", e.flow(0, 8), 1);
        Check.due("too late", e.answer(0, true, 0), Check.NONE);
        Check.due("before its time", e.take(), Check.NONE);
        e.tick(1);
        Check.due("before its time", e.take(), Check.NONE);
        e.tick(1);
        Check.due("at its time", e.take(), 0);
        e.tick(4);
        Check.due("in time", e.answer(0, true, 0), Check.DONE);
    }

    private static void orders() {
        FlowEngine e = Check.with(Check.in(Check.CALL, 0, 0));
        Check.program(e, 1, Check.in(Check.SLEEP, 0, 0), Check.in(Check.CALL, 0, 0));
        e.start(1, 5);
        e.start(0, 0);
        e.start(0, 0);
        e.start(1, 5);
        e.take();
        e.answer(1, false, 0);
        Check.due("take", e.take(), 2);
        e.tick(2);
        e.remove(1);
        e.start(0, 0);
        e.tick(2);
        e.remove(1);
        Check.line("none", e);
        e.tick(1);
        Check.line("not answered first, then woken ones, the least first", e, 2, 0, 3);

        FlowEngine f = Check.with(Check.in(Check.CALL, 0, 0), Check.in(Check.CALL, 1, 0));
        f.start(0, 0);
        f.start(0, 0);
        f.take();
        f.answer(0, true, 0);
        Check.due("take", f.take(), 1);
        Check.due("take", f.take(), 0);
        f.tick(5);
        Check.line("the least first, not the first taken", f, 0, 1);
    }

    private static void tickByTick() {
        FlowEngine e = Check.with(Check.in(Check.SLEEP, 0, 0), Check.in(Check.SLEEP, 0, 0), Check.in(Check.CALL, 0, 0));
        e.start(0, 3);
        e.start(0, 2);
        Check.due("tick", e.tick(6), 6);
        Check.due("slept twice", e.flow(0, 0), Check.WAITS);
        Check.line("in the order of time", e, 1, 0);

        FlowEngine f = Check.with(Check.in(Check.CALL, 0, 0), Check.in(Check.CALL, 0, 0));
        f.start(0, 0);
        f.take();
        f.tick(20);
        Check.due("not answered once", f.flow(0, 8), 1);
        Check.due("take", f.take(), 0);
        Check.due("tries", f.flow(0, 8), 2);
    }

    private static void forgotten() {
        FlowEngine e = Check.with(Check.in(Check.SLEEP, 0, 0), Check.in(Check.CALL, 2, 0));
        e.start(0, 2);
        e.forget(0);
        e.tick(1);
        Check.due("no replay yet", e.count(5), 0);
        e.tick(1);
        Check.due("replay", e.count(5), 1);
        Check.due("woken", e.flow(0, 0), Check.WAITS);
        Check.due("remembered", e.flow(0, 7), 0);

        e.start(0, 4);
        e.change(0, 0, Check.SLEEP, 1, 0);
        e.tick(3);
        Check.due("not looked at yet", e.flow(1, 0), Check.SLEEPS);
        e.tick(1);
        Check.due("broken when it is to be woken", e.flow(1, 0), Check.BROKEN);
        Check.due("WOKE is not written", e.flow(1, 2), 2);

        FlowEngine f = Check.with(Check.in(Check.CALL, 2, 0));
        f.start(0, 2);
        f.forget(0);
        f.take();
        f.tick(7);
        f.take();
        f.tick(9);
        f.take();
        f.tick(4);
        Check.due("no replay yet", f.count(5), 0);
        f.tick(1);
        Check.due("replay for LOST", f.count(5), 1);
        Check.due("failed", f.flow(0, 0), Check.FAILED);
        Check.due("lost", f.count(6), 1);
    }

    /** A replay does not make a sleep longer, but one that is new in it begins then. */
    private static void sleepsSince() {
        FlowEngine e = Check.with(Check.in(Check.SLEEP, 0, 0));
        e.start(0, 5);
        e.tick(3);
        e.forget(0);
        Check.due("replay", e.signal(0, 0, 0), 0);
        Check.due("remembered", e.flow(0, 7), 0);
        e.tick(1);
        Check.due("sleeps", e.flow(0, 0), Check.SLEEPS);
        e.tick(1);
        Check.due("woken", e.flow(0, 0), Check.DONE);

        FlowEngine f = Check.with(Check.in(Check.AWAIT, 0, 0));
        f.start(0, 5);
        f.tick(3);
        f.change(0, 0, Check.SLEEP, 0, 0);
        f.tick(3);
        Check.due("it awaits still", f.flow(0, 0), Check.AWAITS);
        f.signal(0, 0, 0);
        f.tick(4);
        Check.due("sleeps since the replay", f.flow(0, 0), Check.SLEEPS);
        f.tick(1);
        Check.due("woken", f.flow(0, 0), Check.DONE);
    }

    private static void noRoomForWoke() {
        FlowEngine e = Check.with(Check.in(Check.SLEEP, 0, 0), Check.in(Check.JUMP, 0, 0));
        e.start(0, 1);
        e.tick(9);
        Check.due("20 entries", e.flow(0, 2), 20);
        Check.due("sleeps", e.flow(0, 0), Check.SLEEPS);
        e.tick(1);
        Check.due("no room", e.flow(0, 0), Check.BROKEN);
        Check.due("20 entries still", e.flow(0, 2), 20);
    }
}
