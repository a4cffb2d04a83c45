/** Promise 4: start, and what instructions do. */
public final class StartTest {
    public static void main(String[] args) {
        numbers();
        variables();
        jumps();
        endOfProgram();
        steps();
        noting();
        fullHistory();
        sleepOfNothing();
        Check.end();
    }

    private static void numbers() {
        FlowEngine e = Check.with(Check.in(Check.AWAIT, 0, 0));
        Check.due("program 3", e.start(3, 0), Check.REFUSED);
        Check.due("program -1", e.start(-1, 0), Check.REFUSED);
        for (int w = 0; w < 6; w++) {
            Check.due("start", e.start(0, w), w);
        }
        Check.due("a seventh", e.start(0, 0), Check.FULL);
        Check.due("a wrong seventh", e.start(3, 0), Check.REFUSED);
        e.remove(4);
        e.remove(2);
        Check.due("the least free", e.start(0, 9), 2);
        Check.due("begins with", e.flow(2, 10), 9);
        Check.history("start", e, 2, Check.in(Check.START, 0, 9));
        Check.due("the next free", e.start(0, 0), 4);
    }

    private static void variables() {
        FlowEngine e = Check.with(
                Check.in(Check.SET, 1, Integer.MAX_VALUE), Check.in(Check.SET, 2, 1),
                Check.in(Check.ADD, 1, 2), Check.in(Check.ADD, 0, 0),
                Check.in(Check.LESS, 2, 0), Check.in(Check.LESS, 3, 3), Check.in(Check.END, 1, 0));
        e.start(0, 21);
        Check.due("doubled", e.flow(0, 10), 42);
        Check.due("wrapped", e.flow(0, 11), Integer.MIN_VALUE);
        Check.due("1 is less than 42", e.flow(0, 12), 1);
        Check.due("0 is not less than 0", e.flow(0, 13), 0);
        Check.due("outcome", e.flow(0, 5), Integer.MIN_VALUE);
        Check.due("steps", e.count(3), 7);
    }

    private static void jumps() {
        FlowEngine e = Check.with(
                Check.in(Check.ZERO, 0, 3), Check.in(Check.SET, 1, 5), Check.in(Check.END, 1, 0),
                Check.in(Check.SET, 1, 6), Check.in(Check.JUMP, 2, 0));
        e.start(0, 0);
        e.start(0, -1);
        Check.due("by ZERO and JUMP", e.flow(0, 5), 6);
        Check.due("not by ZERO", e.flow(1, 5), 5);
        Check.due("steps", e.count(3), 7);
    }

    private static void endOfProgram() {
        FlowEngine e = new FlowEngine();
        e.start(0, 8);
        Check.due("an empty program", e.flow(0, 0), Check.DONE);
        Check.due("its outcome", e.flow(0, 5), 8);
        Check.due("END 0 counts", e.count(3), 1);
        e.add(1, Check.JUMP, 14, 0);
        e.start(1, 4);
        Check.due("jump behind all", e.flow(1, 5), 4);
        Check.due("steps", e.count(3), 3);
        for (int i = 0; i < 14; i++) {
            e.add(2, Check.SET, 0, i + 70);
        }
        e.start(2, 0);
        Check.due("behind the 14th", e.flow(2, 5), 83);
        Check.due("steps in all", e.count(3), 18);
    }

    /** A loop of 3 steps a round: how often it goes round is what variable 0 begins with. */
    private static FlowEngine looping() {
        return Check.with(
                Check.in(Check.SET, 1, -1), Check.in(Check.ZERO, 0, 4),
                Check.in(Check.ADD, 0, 1), Check.in(Check.JUMP, 1, 0), Check.in(Check.SET, 2, 9));
    }

    private static void steps() {
        FlowEngine e = looping();
        e.start(0, 18);
        Check.due("58 steps", e.count(3), 58);
        Check.due("are fine", e.flow(0, 0), Check.DONE);
        e.start(0, 19);
        Check.due("a 61st", e.flow(1, 0), Check.BROKEN);
        Check.due("is not counted", e.count(3), 118);
        Check.due("the 60th was done", e.flow(1, 12), 9);
        FlowEngine f = looping();
        f.change(0, 0, Check.JUMP, 1, 0);
        f.start(0, 0);
        Check.due("JUMP, ZERO, SET, END", f.count(3), 4);
        exactly60();
        counterIsNew();
    }

    private static void exactly60() {
        FlowEngine e = Check.with(
                Check.in(Check.SET, 1, -1), Check.in(Check.SET, 3, 0), Check.in(Check.ZERO, 0, 5),
                Check.in(Check.ADD, 0, 1), Check.in(Check.JUMP, 2, 0));
        // Two, three a round, ZERO and END.
        e.start(0, 18);
        Check.due("58", e.count(3), 58);
        e.add(0, Check.SET, 3, 1);
        e.add(0, Check.SET, 3, 2);
        e.start(0, 18);
        Check.due("60 are fine", e.flow(1, 0), Check.DONE);
        Check.due("60", e.count(3), 118);
        e.add(0, Check.SET, 3, 3);
        e.start(0, 18);
        Check.due("61 are not", e.flow(2, 0), Check.BROKEN);
        Check.due("60 of them", e.count(3), 178);
        Check.due("what was done stays", e.flow(2, 13), 3);
        Check.due("history stays", e.flow(2, 2), 1);
    }

    private static void counterIsNew() {
        FlowEngine e = Check.with(
                Check.in(Check.SET, 1, -1), Check.in(Check.ZERO, 0, 4),
                Check.in(Check.ADD, 0, 1), Check.in(Check.JUMP, 1, 0),
                Check.in(Check.AWAIT, 0, 0), Check.in(Check.JUMP, 0, 0));
        e.start(0, 18);
        Check.due("57 and AWAIT", e.count(3), 57);
        Check.due("signal", e.signal(0, 0, 18), 1);
        Check.due("58 more are fine", e.flow(0, 0), Check.AWAITS);
        e.signal(0, 1, 0);
        Check.due("signal", e.signal(0, 0, 19), 1);
        Check.due("JUMP and 60 more are too many", e.flow(0, 0), Check.BROKEN);
    }

    private static void noting() {
        FlowEngine e = new FlowEngine();
        for (int i = 0; i < 7; i++) {
            e.add(0, Check.UNDO, 0, 0);
        }
        e.start(0, 3);
        Check.due("a seventh UNDO", e.flow(0, 0), Check.BROKEN);
        Check.due("it counts", e.count(3), 7);
        Check.due("nothing is wanted", e.flow(0, 2), 1);
        e.change(0, 6, Check.AWAIT, 0, 0);
        e.start(0, 3);
        Check.due("six UNDOs", e.flow(1, 0), Check.AWAITS);
        Check.due("are noted", e.flow(1, 4), 6);
    }

    private static void fullHistory() {
        FlowEngine e = Check.with(Check.in(Check.CALL, 1, 0), Check.in(Check.JUMP, 0, 0));
        e.start(0, 5);
        for (int i = 0; i < 9; i++) {
            Check.due("take", e.take(), 0);
            Check.due("answer", e.answer(0, true, i), Check.WAITS);
        }
        Check.due("20 entries", e.flow(0, 2), 20);
        Check.due("take", e.take(), 0);
        Check.due("a 21st entry", e.answer(0, true, 9), Check.BROKEN);
        Check.due("history stays", e.flow(0, 2), 20);
        Check.due("variable stays", e.flow(0, 10), 8);

        FlowEngine f = Check.with(Check.in(Check.AWAIT, 0, 0), Check.in(Check.CALL, 1, 0), Check.in(Check.JUMP, 1, 0));
        f.start(0, 5);
        f.signal(0, 0, 1);
        for (int i = 0; i < 8; i++) {
            f.take();
            Check.due("answer", f.answer(0, true, i), Check.WAITS);
        }
        f.take();
        Check.due("a 21st WANTED", f.answer(0, true, 8), Check.BROKEN);
        Check.due("20 entries", f.flow(0, 2), 20);
        Check.due("the RESULT was written", f.entry(0, 19, 0), Check.RESULT);
        Check.due("and went to the variable", f.flow(0, 10), 8);
        Check.due("no task", f.line(-1), 0);
    }

    private static void sleepOfNothing() {
        FlowEngine e = Check.with(Check.in(Check.SLEEP, 0, 77));
        e.start(0, 0);
        e.start(0, -3);
        e.start(0, 1);
        Check.due("0 ticks", e.flow(0, 0), Check.DONE);
        Check.due("below 0", e.flow(1, 0), Check.DONE);
        Check.due("not written", e.flow(1, 2), 1);
        Check.due("1 tick", e.flow(2, 0), Check.SLEEPS);
        Check.history("sleeps", e, 2, Check.in(Check.START, 0, 1), Check.in(Check.SLEPT, 1, 0));
    }
}
