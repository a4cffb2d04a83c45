/** The edges of tasks and the line. */
final class TaskEdges extends Check {
    static void all() {
        wanted();
        ofItsWorkflow();
        takesTheFirst();
        within5Ticks();
        lostWithThree();
        powersOfTwo();
        gone();
        time();
    }

    private static void wanted() {
        says("TASKS: each WANTED written (not in a REPLAY) makes a TASK, at the end of the LINE.");
        FlowEngine e = engine("CALL 0 0", "CALL 1 0");
        for (int w = 0; w < 6; w++) {
            e.start(0, w);
        }
        line("by start", e, 0, 1, 2, 3, 4, 5);
        e.forget(0);
        e.forget(3);
        e.signal(3, 0, 0);
        line("none by a replay", e, 0, 1, 2, 3, 4, 5);
        due("take", e.take(), 0);
        e.answer(0, true, 0);
        line("by what comes behind a replay", e, 1, 2, 3, 4, 5, 0);
        FlowEngine f = engine("UNDO 0 0", "UNDO 1 0", "FAIL");
        put(f, 1, "CALL 0 0");
        f.start(0, 1);
        f.start(1, 1);
        line("by undoing", f, 0, 1);
        f.take();
        f.answer(0, true, 0);
        line("by undoing", f, 1, 0);
        FlowEngine g = engine("AWAIT 0 0");
        put(g, 1, "CALL 0 0");
        g.start(0, 1);
        g.start(1, 1);
        change(g, 0, 0, "CALL 0 0");
        g.signal(0, 0, 0);
        line("by going on behind the last entry", g, 1, 0);
    }

    private static void ofItsWorkflow() {
        says("A TASK is of its WORKFLOW, KIND and ARGUMENT, and has TRIES.");
        FlowEngine e = engine("CALL 3 0", "CALL 2 0");
        e.start(0, 8);
        e.start(0, 9);
        due("tries at first", e.flow(0, 8), 0);
        due("of workflow 0", e.take(), 0);
        due("tries", e.flow(0, 8), 1);
        due("the other's stay", e.flow(1, 8), 0);
        due("of workflow 1", e.take(), 1);
        e.answer(1, true, 7);
        wrote("its kind and argument", e, 1, START, 0, 9, WANTED, 3, 9, RESULT, 3, 7, WANTED, 2, 7);
        due("tries of the next one", e.flow(1, 8), 0);
        due("the other is out still", e.flow(0, 9), 1);
    }

    private static void takesTheFirst() {
        says("A worker takes the first TASK of the LINE that is not before its time; it is OUT then, "
                + "TRIES are 1 more.");
        FlowEngine e = engine("CALL 0 0");
        e.start(0, 0);
        due("take", e.take(), 0);
        e.answer(0, false, 0);
        e.start(0, 0);
        e.start(0, 0);
        line("0 is the first, but before its time", e, 0, 1, 2);
        due("so 1", e.take(), 1);
        due("out", e.flow(1, 9), 1);
        due("tries", e.flow(1, 8), 1);
        line("it is in the line no more", e, 0, 2);
        e.tick(1);
        due("0 is before its time still, so 2", e.take(), 2);
        due("none is left that may be taken", e.take(), NONE);
        e.tick(1);
        due("now it is at its time", e.take(), 0);
        due("tries", e.flow(0, 8), 2);
        line("empty", e);
    }

    private static void within5Ticks() {
        says("When it is not answered within 5 TICKS, or the answer is that it went wrong,");
        FlowEngine e = engine("CALL 0 0", "AWAIT 0 0");
        e.tick(3);
        e.start(0, 0);
        e.tick(7);
        e.take();
        e.tick(4);
        due("out behind 4 ticks", e.flow(0, 9), 1);
        due("and may be answered", e.answer(0, true, 0), AWAITS);
        e.start(0, 0);
        e.take();
        e.tick(4);
        due("out behind 4 ticks", e.flow(1, 9), 1);
        e.tick(1);
        due("not behind 5", e.flow(1, 9), 0);
        due("it may not be answered", e.answer(1, true, 0), NONE);
        line("it came back", e, 1);
        e.start(0, 0);
        e.take();
        due("it went wrong", e.answer(2, false, 0), WAITS);
        due("not out", e.flow(2, 9), 0);
        line("it came back", e, 1, 2);
        e.tick(5);
        due("5 ticks behind it came back nothing happens", e.flow(2, 8), 1);
    }

    private static void lostWithThree() {
        says("LOST is written if TRIES are 3,");
        FlowEngine e = engine("CALL 2 0");
        e.start(0, 6);
        int[] pauses = {2, 4};
        for (int tries = 1; tries <= 2; tries++) {
            e.take();
            due("tries", e.flow(0, 8), tries);
            due("wrong", e.answer(0, false, 9), WAITS);
            due("nothing is written", e.flow(0, 2), 2);
            due("it keeps its tries", e.flow(0, 8), tries);
            e.tick(pauses[tries - 1]);
        }
        e.take();
        due("tries", e.flow(0, 8), 3);
        due("wrong a third time", e.answer(0, false, 9), FAILED);
        wrote("lost", e, 0, START, 0, 6, WANTED, 2, 6, LOST, 2, 0);
        line("it does not come back", e);

        FlowEngine f = engine("CALL 2 0");
        f.start(0, 6);
        f.take();
        f.tick(7);
        f.take();
        f.tick(9);
        f.take();
        f.tick(4);
        due("4 ticks", f.flow(0, 0), WAITS);
        f.tick(1);
        due("not answered a third time", f.flow(0, 0), FAILED);
        wrote("lost", f, 0, START, 0, 6, WANTED, 2, 6, LOST, 2, 0);
    }

    private static void powersOfTwo() {
        says("else it comes to the end of the LINE, not to be taken before 2 to the power of TRIES TICKS are over.");
        int[] powers = {2, 4};
        for (int late = 0; late <= 1; late++) {
            FlowEngine e = engine("CALL 2 0");
            e.start(0, 6);
            for (int power : powers) {
                due("take", e.take(), 0);
                if (late == 1) {
                    e.tick(5);
                } else {
                    e.answer(0, false, 0);
                }
                line("in the line", e, 0);
                e.tick(power - 1);
                due("before " + power + " ticks are over", e.take(), NONE);
                e.tick(1);
            }
            due("take", e.take(), 0);
        }
        FlowEngine f = engine("CALL 2 0");
        for (int w = 0; w < 3; w++) {
            f.start(0, 0);
        }
        f.take();
        f.answer(0, false, 0);
        line("at the end", f, 1, 2, 0);
    }

    private static void gone() {
        says("TASKS of a WORKFLOW that has ENDED, or is removed, are gone.");
        for (int out = 0; out <= 1; out++) {
            FlowEngine e = engine("CALL 2 0");
            e.start(0, 6);
            e.start(0, 6);
            e.start(0, 6);
            if (out == 1) {
                e.take();
                e.take();
            }
            change(e, 0, 0, "CALL 1 0");
            e.signal(0, 0, 0);
            due("broken", e.flow(0, 0), BROKEN);
            due("remove", e.remove(1), true);
            line("one is left", e, 2);
            due("no tries", e.flow(0, 8), 0);
            due("not out", e.flow(0, 9), 0);
            due("no answer for one that has ended", e.answer(0, true, 0), NONE);
            due("no answer for one that is removed", e.answer(1, true, 0), REFUSED);
            e.tick(20);
            line("they do not come back", e, 2);
            e.start(0, 6);
            due("the new one's is another", e.flow(1, 8), 0);
            due("and not out", e.flow(1, 9), 0);
        }
        FlowEngine f = engine("CALL 2 0");
        f.start(0, 6);
        f.take();
        f.answer(0, false, 0);
        f.remove(0);
        line("one that waited for its time is gone", f);
        f.start(0, 6);
        due("the new one's may be taken at once", f.take(), 0);
    }

    private static void time() {
        says("TIME is 0 at first.");
        due("time", new FlowEngine().count(0), 0);
        due("tick", new FlowEngine().tick(1), 1);
    }
}
