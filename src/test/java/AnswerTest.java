/** Promise 8: answer, and undoing. */
public final class AnswerTest {
    public static void main(String[] args) {
        wrongNumbers();
        good();
        gone();
        lost();
        undoing();
        undoNoRoom();
        forgottenGood();
        forgottenWrong();
        brokenByReplay();
        Check.end();
    }

    private static void wrongNumbers() {
        FlowEngine e = Check.with(Check.in(Check.CALL, 0, 0));
        Check.due("not there", e.answer(0, true, 0), Check.REFUSED);
        Check.due("workflow -1", e.answer(-1, true, 0), Check.REFUSED);
        Check.due("workflow 6", e.answer(6, false, 0), Check.REFUSED);
        e.start(0, 0);
        Check.due("not out", e.answer(0, true, 0), Check.NONE);
        Check.due("not out", e.answer(0, false, 0), Check.NONE);
        e.take();
        Check.due("out", e.answer(0, true, 0), Check.DONE);
        Check.due("ended", e.answer(0, true, 0), Check.NONE);
        e.add(1, Check.AWAIT, 0, 0);
        e.start(1, 0);
        Check.due("no task", e.answer(1, true, 0), Check.NONE);
    }

    private static void good() {
        FlowEngine e = Check.with(Check.in(Check.CALL, 3, 2), Check.in(Check.CALL, 1, 0), Check.in(Check.END, 2, 0));
        e.start(0, 4);
        e.take();
        Check.due("goes on to the next", e.answer(0, true, -6), Check.WAITS);
        Check.due("variable", e.flow(0, 12), -6);
        Check.due("place", e.flow(0, 3), 1);
        Check.due("tries are new", e.flow(0, 8), 0);
        Check.line("a new task", e, 0);
        e.take();
        Check.due("done", e.answer(0, true, 8), Check.DONE);
        Check.due("outcome", e.flow(0, 5), -6);
        Check.history("good", e, 0, Check.in(Check.START, 0, 4),
                Check.in(Check.WANTED, 3, 0), Check.in(Check.RESULT, 3, -6),
                Check.in(Check.WANTED, 1, 4), Check.in(Check.RESULT, 1, 8));
    }

    private static void gone() {
        FlowEngine e = Check.with(Check.in(Check.CALL, 3, 2), Check.in(Check.AWAIT, 0, 0));
        e.start(0, 4);
        e.take();
        Check.due("goes on to AWAIT", e.answer(0, true, 1), Check.AWAITS);
        Check.due("the task is gone", e.flow(0, 8), 0);
        Check.due("and not out", e.flow(0, 9), 0);
        Check.due("a second answer", e.answer(0, true, 1), Check.NONE);
        e.tick(5);
        Check.due("it does not come back", e.line(-1), 0);
    }

    private static void failThrice(FlowEngine e, int w, int before, int behind) {
        int[] pauses = {2, 4};
        for (int i = 0; i < 2; i++) {
            Check.due("take", e.take(), w);
            Check.due("wrong", e.answer(w, false, 9), before);
            e.tick(pauses[i]);
        }
        Check.due("take", e.take(), w);
        Check.due("wrong a third time", e.answer(w, false, 9), behind);
    }

    private static void lost() {
        FlowEngine e = Check.with(Check.in(Check.CALL, 2, 0));
        e.start(0, 5);
        failThrice(e, 0, Check.WAITS, Check.FAILED);
        Check.history("lost", e, 0, Check.in(Check.START, 0, 5),
                Check.in(Check.WANTED, 2, 5), Check.in(Check.LOST, 2, 0));
        Check.due("variable stays", e.flow(0, 10), 5);
        Check.due("outcome", e.flow(0, 5), 0);
        Check.due("lost", e.count(6), 1);
        Check.due("failed", e.count(8), 1);
        Check.due("no task", e.flow(0, 8), 0);
    }

    private static void undoing() {
        FlowEngine e = Check.with(
                Check.in(Check.UNDO, 1, 0), Check.in(Check.SET, 0, 6), Check.in(Check.UNDO, 2, 0),
                Check.in(Check.SET, 0, 7), Check.in(Check.CALL, 3, 0), Check.in(Check.UNDO, 0, 0));
        e.start(0, 5);
        Check.due("two are noted", e.flow(0, 4), 2);
        failThrice(e, 0, Check.WAITS, Check.UNDOES);
        Check.due("one is noted and not wanted yet", e.flow(0, 4), 1);
        Check.due("place at which it failed", e.flow(0, 3), 4);
        Check.due("tries are new", e.flow(0, 8), 0);
        failThrice(e, 0, Check.UNDOES, Check.UNDOES);
        Check.due("LOST does not matter", e.flow(0, 4), 0);
        e.take();
        Check.due("behind the last one", e.answer(0, true, 88), Check.FAILED);
        Check.due("its result goes nowhere", e.flow(0, 10), 7);
        Check.history("undoing", e, 0, Check.in(Check.START, 0, 5),
                Check.in(Check.WANTED, 3, 7), Check.in(Check.LOST, 3, 0),
                Check.in(Check.WANTED, 2, 6), Check.in(Check.LOST, 2, 0),
                Check.in(Check.WANTED, 1, 5), Check.in(Check.RESULT, 1, 88));
        Check.due("lost", e.count(6), 2);
        Check.due("undoing is no instruction", e.count(3), 5);
    }

    private static void undoNoRoom() {
        FlowEngine e = Check.with(
                Check.in(Check.UNDO, 1, 0), Check.in(Check.AWAIT, 0, 0), Check.in(Check.ZERO, 0, 4),
                Check.in(Check.JUMP, 1, 0), Check.in(Check.FAIL, 0, 0));
        e.start(0, 5);
        for (int i = 0; i < 18; i++) {
            e.signal(0, 0, 1);
        }
        e.signal(0, 0, 0);
        Check.due("no room for WANTED", e.flow(0, 0), Check.BROKEN);
        Check.due("not failed", e.count(8), 0);
        Check.due("broken", e.count(9), 1);
        Check.due("no task", e.line(-1), 0);
    }

    private static void forgottenGood() {
        FlowEngine e = Check.with(Check.in(Check.ADD, 0, 0), Check.in(Check.CALL, 1, 1), Check.in(Check.END, 1, 0));
        e.start(0, 3);
        e.take();
        e.forget(0);
        Check.due("replayed and done", e.answer(0, true, 12), Check.DONE);
        Check.due("variable 0 is made again", e.flow(0, 10), 6);
        Check.due("outcome", e.flow(0, 5), 12);
        Check.due("replays", e.count(5), 1);
        Check.due("replayed ones", e.count(4), 2);
        Check.due("others", e.count(3), 3);
        Check.due("no second task", e.line(-1), 0);
    }

    private static void forgottenWrong() {
        FlowEngine e = Check.with(Check.in(Check.UNDO, 3, 0), Check.in(Check.CALL, 1, 1));
        e.start(0, 3);
        e.take();
        e.forget(0);
        Check.due("wrong", e.answer(0, false, 0), Check.WAITS);
        Check.due("nothing is to be written", e.count(5), 0);
        Check.due("forgotten still", e.flow(0, 7), 1);
        e.tick(2);
        e.take();
        e.answer(0, false, 0);
        e.tick(4);
        e.take();
        Check.due("LOST is to be written", e.answer(0, false, 0), Check.UNDOES);
        Check.due("replayed", e.count(5), 1);
        Check.due("remembered", e.flow(0, 7), 0);
        Check.due("lost", e.count(6), 1);
        Check.history("lost", e, 0, Check.in(Check.START, 0, 3), Check.in(Check.WANTED, 1, 0),
                Check.in(Check.LOST, 1, 0), Check.in(Check.WANTED, 3, 3));
    }

    private static void brokenByReplay() {
        FlowEngine e = Check.with(Check.in(Check.CALL, 1, 1));
        e.start(0, 3);
        e.take();
        e.change(0, 0, Check.CALL, 1, 0);
        Check.due("another argument", e.answer(0, true, 4), Check.BROKEN);
        Check.due("not written", e.flow(0, 2), 2);
        Check.due("variable stays", e.flow(0, 10), 3);
        Check.due("no task", e.flow(0, 9), 0);
        Check.due("replayed ones", e.count(4), 1);
    }
}
