/** The edges of programs and of what each instruction does. */
final class InstructionEdges extends Check {
    private static final int LEAST = Integer.MIN_VALUE;
    private static final int MOST = Integer.MAX_VALUE;
    private static final int[] INTS = {LEAST, -1, 0, 1, MOST};

    static void all() {
        programs();
        variablesWrap();
        places();
        set();
        add();
        less();
        jump();
        zero();
        call();
        sleep();
        await();
        undoNotes();
        seventhUndo();
        fail();
        ends();
        nextComes();
        noneThere();
    }

    private static void programs() {
        says("PROGRAMS 0 to 2 have at most 14 INSTRUCTIONS (op, a, b), numbered from 0.");
        FlowEngine e = new FlowEngine();
        for (int p = 0; p <= 2; p++) {
            for (int i = 0; i < 14; i++) {
                due("number in program " + p, e.add(p, SET, 0, 100 * p + i), i);
            }
            due("a 15th in program " + p, e.add(p, SET, 0, 0), FULL);
            due("14 in program " + p, e.count(10 + p), 14);
        }
        due("program -1", e.add(-1, SET, 0, 0), REFUSED);
        due("program 3", e.add(3, SET, 0, 0), REFUSED);
        for (int p = 0; p <= 2; p++) {
            e.start(p, 0);
            due("the 14th is the last one done in program " + p, e.flow(p, 5), 100 * p + 13);
        }
    }

    private static void variablesWrap() {
        says("VARIABLES are 0 to 3 (ints, wrapping),");
        for (int a = 0; a <= 3; a++) {
            int b = 3 - a;
            FlowEngine e = engine("SET " + a + " " + MOST, "SET " + b + " 1", "ADD " + a + " " + b,
                    "AWAIT 0 3", "SET " + a + " " + LEAST, "SET " + b + " -1", "ADD " + a + " " + b, "AWAIT 0 " + b);
            e.start(0, 0);
            due("the greatest int and 1 in variable " + a, e.flow(0, 10 + a), LEAST);
            e.signal(0, 0, 0);
            due("the least int and -1 in variable " + a, e.flow(0, 10 + a), MOST);
        }
        FlowEngine f = new FlowEngine();
        due("variable -1", f.add(0, SET, -1, 0), REFUSED);
        due("variable 4", f.add(0, SET, 4, 0), REFUSED);
    }

    private static void places() {
        says("PLACES 0 to 14.");
        FlowEngine e = new FlowEngine();
        due("place -1", e.add(0, JUMP, -1, 0), REFUSED);
        due("place 15", e.add(0, JUMP, 15, 0), REFUSED);
        due("place 14", e.add(0, JUMP, 14, 0), 0);
        e.start(0, 9);
        due("at place 14 is the end", e.flow(0, 5), 9);
        due("place 0", e.add(1, JUMP, 0, 0), 0);
        e.start(1, 0);
        due("place 0 again and again", e.flow(1, 0), BROKEN);
    }

    private static void set() {
        says("0 SET a b: VARIABLE a is b (any int).");
        for (int b : INTS) {
            for (int a = 0; a <= 3; a++) {
                FlowEngine e = engine("SET " + a + " " + b);
                e.start(0, 7);
                for (int v = 0; v <= 3; v++) {
                    due("variable " + v + " behind SET " + a + " " + b, e.flow(0, 10 + v), v == a ? b : v == 0 ? 7 : 0);
                }
            }
        }
    }

    private static void add() {
        says("1 ADD a b: VARIABLE a is the sum of a and b.");
        for (int x : INTS) {
            for (int y : INTS) {
                FlowEngine e = engine("SET 3 " + y, "ADD 0 3");
                e.start(0, x);
                due(x + " and " + y, e.flow(0, 10), x + y);
                due("variable b stays", e.flow(0, 13), y);
            }
            FlowEngine f = engine("ADD 0 0");
            f.start(0, x);
            due(x + " to itself", f.flow(0, 10), 2 * x);
        }
    }

    private static void less() {
        says("2 LESS a b: VARIABLE a is 1 if it is less than VARIABLE b, else 0.");
        for (int x : INTS) {
            for (int y : INTS) {
                FlowEngine e = engine("SET 3 " + y, "LESS 0 3");
                e.start(0, x);
                due(x + " less than " + y, e.flow(0, 10), x < y ? 1 : 0);
                due("variable b stays", e.flow(0, 13), y);
            }
            FlowEngine f = engine("LESS 0 0");
            f.start(0, x);
            due(x + " less than itself", f.flow(0, 10), 0);
        }
    }

    private static void jump() {
        says("3 JUMP a: goes on at PLACE a.");
        FlowEngine e = engine("JUMP 2", "END 1", "SET 0 5", "JUMP 1");
        e.start(0, 9);
        due("forth, and back", e.count(3), 4);
        due("variable 0", e.flow(0, 10), 5);
        due("outcome", e.flow(0, 5), 0);
        FlowEngine f = engine("JUMP 14", "FAIL");
        f.start(0, 9);
        due("to place 14, where there is none", f.flow(0, 0), DONE);
        FlowEngine g = engine("JUMP 0");
        g.start(0, 9);
        due("to itself", g.flow(0, 0), BROKEN);
    }

    private static void zero() {
        says("4 ZERO a b: goes on at PLACE b if VARIABLE a is 0.");
        for (int x : INTS) {
            FlowEngine e = engine("ZERO 0 2", "END 0", "FAIL");
            e.start(0, x);
            due("ZERO of " + x, e.flow(0, 0), x == 0 ? FAILED : DONE);
        }
        FlowEngine f = engine("ZERO 3 14", "FAIL");
        f.start(0, 1);
        due("to place 14, where there is none", f.flow(0, 0), DONE);
    }

    private static void call() {
        says("5 CALL a b: an ACTIVITY of KIND a (0 to 3) is wanted, with VARIABLE b as its ARGUMENT; "
                + "VARIABLE b is its RESULT.");
        for (int kind : new int[] {0, 3}) {
            for (int x : INTS) {
                FlowEngine e = engine("SET 3 " + x, "CALL " + kind + " 3", "END 3");
                e.start(0, 1);
                due("variable b before its result", e.flow(0, 13), x);
                due("answer", answerGood(e, 0, -x), DONE);
                due("variable b", e.flow(0, 5), -x);
                wrote("call", e, 0, START, 0, 1, WANTED, kind, x, RESULT, kind, -x);
            }
        }
        FlowEngine f = new FlowEngine();
        due("kind -1", f.add(0, CALL, -1, 0), REFUSED);
        due("kind 4", f.add(0, CALL, 4, 0), REFUSED);
    }

    private static void sleep() {
        says("6 SLEEP a: sleeps for VARIABLE a TICKS (not at all if that is below 1).");
        for (int ticks : new int[] {0, -1, LEAST}) {
            FlowEngine e = engine("SLEEP 0", "AWAIT 0 1");
            e.start(0, ticks);
            due("not at all for " + ticks, e.flow(0, 0), AWAITS);
            wrote("nothing for " + ticks, e, 0, START, 0, ticks);
            due("both are done", e.count(3), 2);
        }
        FlowEngine f = engine("SLEEP 0");
        f.start(0, 1);
        due("1 tick", f.flow(0, 0), SLEEPS);
        f.tick(1);
        due("is over", f.flow(0, 0), DONE);
        f.start(0, MOST);
        for (int i = 0; i < 20; i++) {
            f.tick(20);
        }
        due("the greatest int of ticks", f.flow(1, 0), SLEEPS);
    }

    private static void await() {
        says("7 AWAIT a b: waits for SIGNAL a (0 to 3); VARIABLE b is its value.");
        for (int s : new int[] {0, 3}) {
            for (int v : INTS) {
                FlowEngine e = engine("AWAIT " + s + " 3", "END 3");
                e.start(0, 1);
                due("another signal", e.signal(0, 3 - s, 5), 0);
                due("signal", e.signal(0, s, v), 1);
                due("value", e.flow(0, 5), v);
            }
        }
        FlowEngine f = new FlowEngine();
        due("signal -1", f.add(0, AWAIT, -1, 0), REFUSED);
        due("signal 4", f.add(0, AWAIT, 4, 0), REFUSED);
    }

    private static void undoNotes() {
        says("8 UNDO a b: an ACTIVITY of KIND a (0 to 3) with the present value of VARIABLE b as its ARGUMENT "
                + "is noted, to be done if the WORKFLOW FAILS;");
        FlowEngine e = engine("UNDO 0 0", "SET 0 2", "UNDO 3 0", "SET 0 3", "AWAIT 0 1", "ZERO 1 7", "FAIL", "END 0");
        e.start(0, 1);
        e.start(0, 1);
        due("two are noted", e.flow(0, 4), 2);
        due("none is wanted", e.line(-1), 0);
        e.signal(0, 0, 0);
        due("it is done, and none is wanted", e.flow(0, 0), DONE);
        wrote("done", e, 0, START, 0, 1, SIGNAL, 0, 0);
        e.signal(1, 0, 1);
        due("it fails", e.flow(1, 0), UNDOES);
        answerGood(e, 1, 0);
        wrote("arguments as they were then", e, 1,
                START, 0, 1, SIGNAL, 0, 1, WANTED, 3, 2, RESULT, 3, 0, WANTED, 0, 1);
        FlowEngine f = new FlowEngine();
        due("kind -1", f.add(0, UNDO, -1, 0), REFUSED);
        due("kind 4", f.add(0, UNDO, 4, 0), REFUSED);
    }

    private static void seventhUndo() {
        says("at most 6 are noted, with a seventh the WORKFLOW is BROKEN.");
        FlowEngine e = engine("UNDO 0 0", "UNDO 0 0", "UNDO 0 0", "UNDO 0 0", "UNDO 0 0", "UNDO 0 0", "AWAIT 0 0",
                "UNDO 0 0");
        e.start(0, 3);
        due("six", e.flow(0, 4), 6);
        due("are fine", e.flow(0, 0), AWAITS);
        e.signal(0, 0, 9);
        due("a seventh", e.flow(0, 0), BROKEN);
        due("none is undone", e.line(-1), 0);
        wrote("nothing more", e, 0, START, 0, 3, SIGNAL, 0, 9);
    }

    private static void fail() {
        says("9 FAIL: the WORKFLOW FAILS.");
        FlowEngine e = engine("FAIL", "END 0");
        e.start(0, 3);
        due("with nothing noted", e.flow(0, 0), FAILED);
        due("FAIL alone is done", e.count(3), 1);
        FlowEngine f = engine("UNDO 1 0", "FAIL", "END 0");
        f.start(0, 3);
        due("with one noted", f.flow(0, 0), UNDOES);
        due("at FAIL", f.flow(0, 3), 1);
    }

    private static void ends() {
        says("10 END a: the WORKFLOW is DONE, VARIABLE a is its OUTCOME.");
        for (int a = 0; a <= 3; a++) {
            FlowEngine e = engine("SET 0 " + LEAST, "SET 1 -1", "SET 2 1", "SET 3 " + MOST, "END " + a, "FAIL");
            e.start(0, 5);
            due("state", e.flow(0, 0), DONE);
            due("outcome of END " + a, e.flow(0, 5), new int[] {LEAST, -1, 1, MOST}[a]);
            due("nothing behind END is done", e.count(3), 5);
        }
    }

    private static void nextComes() {
        says("Behind an INSTRUCTION the next one comes, if it does not say otherwise.");
        FlowEngine e = engine("SET 0 1", "ADD 1 0", "LESS 2 0", "ZERO 0 0", "CALL 0 3", "SLEEP 0", "AWAIT 0 3",
                "UNDO 0 0", "SLEEP 3", "AWAIT 1 3");
        e.start(0, 0);
        due("behind SET, ADD, LESS, ZERO", e.flow(0, 3), 4);
        answerGood(e, 0, 0);
        due("behind CALL", e.flow(0, 3), 5);
        e.tick(1);
        due("behind SLEEP", e.flow(0, 3), 6);
        e.signal(0, 0, 0);
        due("behind AWAIT, UNDO, SLEEP of nothing", e.flow(0, 3), 9);
        e.signal(0, 1, 0);
        due("behind the last one", e.flow(0, 0), DONE);
    }

    private static void noneThere() {
        says("Where there is none, it is as if END 0 stood there (which counts as an INSTRUCTION done).");
        FlowEngine e = new FlowEngine();
        e.start(0, 8);
        due("an empty program", e.flow(0, 5), 8);
        due("END 0 counts", e.count(3), 1);
        put(e, 1, "SET 0 4");
        e.start(1, 8);
        due("behind the last one", e.flow(1, 5), 4);
        due("SET and END 0", e.count(3), 3);
        put(e, 2, "JUMP 13", "SET 0 1", "SET 0 1", "SET 0 1", "SET 0 1", "SET 0 1", "SET 0 1", "SET 0 1", "SET 0 1",
                "SET 0 1", "SET 0 1", "SET 0 1", "SET 0 1", "SET 0 6");
        e.start(2, 8);
        due("behind the 14th", e.flow(2, 5), 6);
        due("JUMP, SET and END 0", e.count(3), 6);
        e.add(0, JUMP, 1, 0);
        e.start(0, 7);
        due("where a jump leads", e.flow(3, 5), 7);
        due("JUMP and END 0", e.count(3), 8);
        asThe60th();
    }

    /** 18 rounds are 56 instructions; three, and END 0, are 60. */
    private static void asThe60th() {
        FlowEngine e = engine("SET 1 -1", "ZERO 0 4", "ADD 0 1", "JUMP 1", "SET 2 1", "SET 2 2", "SET 2 3");
        e.start(0, 18);
        due("END 0 as the 60th", e.flow(0, 0), DONE);
        due("60", e.count(3), 60);
        put(e, 0, "SET 2 4");
        e.start(0, 18);
        due("END 0 as the 61st", e.flow(1, 0), BROKEN);
        due("60 more", e.count(3), 120);
    }
}
