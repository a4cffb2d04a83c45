/** The edges of workflows and their histories. */
final class HistoryEdges extends Check {
    static void all() {
        workflows();
        entries();
        start();
        sorts();
        states();
        ended();
        rememberedOrForgotten();
    }

    private static void workflows() {
        says("WORKFLOWS 0 to 5 are there or not.");
        FlowEngine e = engine("AWAIT 0 0");
        for (int w = 0; w <= 5; w++) {
            due("not there", e.flow(w, 0), 0);
            due("start", e.start(0, 0), w);
            due("there", e.flow(w, 0), AWAITS);
        }
        due("a seventh", e.start(0, 0), FULL);
        due("remove 5", e.remove(5), true);
        due("5 is not there", e.flow(5, 0), 0);
        due("remove -1", e.remove(-1), false);
        due("remove 6", e.remove(6), false);
    }

    private static void entries() {
        says("One is of a PROGRAM, and has a HISTORY, at most 20 ENTRIES (sort, number, value),");
        FlowEngine e = new FlowEngine();
        put(e, 2, "AWAIT 3 0", "JUMP 0");
        e.start(2, 1);
        due("its program", e.flow(0, 1), 2);
        for (int i = 1; i <= 19; i++) {
            due("signal " + i, e.signal(0, 3, 10 * i), 1);
            due("entries", e.flow(0, 2), i + 1);
        }
        due("20 are fine", e.flow(0, 0), AWAITS);
        due("a 21st", e.signal(0, 3, 7), 1);
        due("is not", e.flow(0, 0), BROKEN);
        due("20", e.flow(0, 2), 20);
        due("sort of the 20th", e.entry(0, 19, 0), SIGNAL);
        due("number of the 20th", e.entry(0, 19, 1), 3);
        due("value of the 20th", e.entry(0, 19, 2), 190);
        due("no 21st", e.entry(0, 20, 0), NONE);
    }

    private static void start() {
        says("the first one 1 START (the PROGRAM, what VARIABLE 0 begins with; the other VARIABLES begin with 0).");
        for (int p = 0; p <= 2; p++) {
            for (int v : new int[] {Integer.MIN_VALUE, 0, Integer.MAX_VALUE}) {
                FlowEngine e = new FlowEngine();
                put(e, p, "AWAIT 0 1", "AWAIT 0 2", "AWAIT 0 3", "AWAIT 1 0");
                e.start(p, 77);
                for (int i = 1; i <= 3; i++) {
                    e.signal(0, 0, i);
                }
                e.remove(0);
                e.start(p, v);
                wrote("start", e, 0, START, p, v);
                for (int i = 0; i <= 3; i++) {
                    due("variable " + i + " at first", e.flow(0, 10 + i), i == 0 ? v : 0);
                }
            }
        }
    }

    private static void sorts() {
        says("Further ENTRIES: 2 WANTED (KIND, ARGUMENT), 3 RESULT (KIND, RESULT), 4 LOST (KIND, 0), "
                + "5 SLEEPS (TICKS, 0), 6 WOKE (0, 0), 7 SIGNAL (its number, its value).");
        FlowEngine e = engine("CALL 2 0", "SLEEP 0", "AWAIT 3 1", "CALL 1 1");
        e.start(0, 5);
        answerGood(e, 0, 4);
        e.tick(4);
        e.signal(0, 3, -8);
        lose(e, 0);
        wrote("all sorts", e, 0, 1, 0, 5, 2, 2, 5, 3, 2, 4, 5, 4, 0, 6, 0, 0, 7, 3, -8, 2, 1, -8, 4, 1, 0);
    }

    private static void states() {
        says("STATES: 1 WAITS, 2 SLEEPS, 3 AWAITS, 4 UNDOES, 5 DONE, 6 FAILED, 7 BROKEN (0 if it is not there).");
        String[] last = {"CALL 0 0", "SLEEP 0", "AWAIT 0 0", "FAIL", "END 0"};
        for (int i = 0; i < last.length; i++) {
            FlowEngine e = engine("UNDO 1 0", last[i]);
            due("not there", e.flow(0, 0), 0);
            e.start(0, 3);
            due(last[i], e.flow(0, 0), i + 1);
            e.remove(0);
            due("not there any more", e.flow(0, 0), 0);
        }
        FlowEngine f = engine("FAIL");
        put(f, 1, "JUMP 0");
        f.start(0, 3);
        f.start(1, 3);
        due("failed", f.flow(0, 0), 6);
        due("broken", f.flow(1, 0), 7);
    }

    private static void ended() {
        says("With 5 to 7 it has ENDED; nothing happens to it any more.");
        String[] last = {"END 2", "FAIL", "JUMP 1"};
        for (int i = 0; i < last.length; i++) {
            FlowEngine e = engine("AWAIT 0 2", last[i]);
            e.start(0, 3);
            e.signal(0, 1, 8);
            e.signal(0, 0, 9);
            String before = seen(e);
            due(last[i], e.flow(0, 0), DONE + i);
            due("signal", e.signal(0, 0, 1), NONE);
            due("answer", e.answer(0, true, 1), NONE);
            due("forget", e.forget(0), false);
            due("take", e.take(), NONE);
            change(e, 0, 0, "SET 2 5");
            put(e, 0, "END 0");
            e.tick(20);
            due(last[i] + ": it stays as it was", before.equals(seen(e)), true);
            due("not replayed", e.count(5), 0);
        }
    }

    /** All of workflow 0 that can be seen. */
    private static String seen(FlowEngine e) {
        StringBuilder text = new StringBuilder();
        for (int what = 0; what <= 13; what++) {
            text.append(e.flow(0, what)).append(' ');
        }
        for (int k = 0; k < 20; k++) {
            for (int what = 0; what <= 2; what++) {
                text.append(e.entry(0, k, what)).append(' ');
            }
        }
        return text.toString();
    }

    private static void rememberedOrForgotten() {
        says("A WORKFLOW that is there and has not ENDED is REMEMBERED or FORGOTTEN.");
        String[] last = {"CALL 0 0", "SLEEP 0", "AWAIT 0 0", "FAIL"};
        for (String words : last) {
            FlowEngine e = engine("UNDO 1 0", words);
            due("one that is not there", e.flow(0, 7), 0);
            e.start(0, 3);
            due("remembered at first", e.flow(0, 7), 0);
            due("forget", e.forget(0), true);
            due("forgotten", e.flow(0, 7), 1);
            due("there is no third", e.forget(0), false);
            e.signal(0, 3, 0);
            due("remembered again", e.flow(0, 7), 0);
        }
        FlowEngine f = new FlowEngine();
        f.start(0, 3);
        due("one that has ended", f.forget(0), false);
        due("is not forgotten", f.flow(0, 7), 0);
    }
}
