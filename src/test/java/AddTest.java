/** Promise 2: add. */
public final class AddTest {
    public static void main(String[] args) {
        numbersAndRoom();
        limitsOfEachOp();
        refusedBeforeFull();
        forgets();
        Check.end();
    }

    private static void numbersAndRoom() {
        FlowEngine e = new FlowEngine();
        for (int i = 0; i < 14; i++) {
            Check.due("add the " + i + "th", e.add(1, Check.SET, 0, i), i);
        }
        Check.due("a 15th", e.add(1, Check.SET, 0, 0), Check.FULL);
        Check.due("size of program 1", e.count(11), 14);
        Check.due("another program", e.add(2, Check.FAIL, 0, 0), 0);
        Check.due("size of program 0", e.count(10), 0);
        Check.due("program -1", e.add(-1, Check.SET, 0, 0), Check.REFUSED);
        Check.due("program 3", e.add(3, Check.SET, 0, 0), Check.REFUSED);
        Check.due("all 14 are done in their order", e.start(1, 0), 0);
        Check.due("outcome", e.flow(0, 5), 13);
    }

    private static void limitsOfEachOp() {
        int[] firsts = {3, 3, 3, 14, 3, 3, 3, 3, 3, -1, 3};
        int[] seconds = {-1, 3, 3, -1, 14, 3, -1, 3, 3, -1, -1};
        for (int op = 0; op <= 10; op++) {
            limits("a of op " + op, op, firsts[op], true);
            limits("b of op " + op, op, seconds[op], false);
        }
        FlowEngine e = new FlowEngine();
        Check.due("op -1", e.add(0, -1, 0, 0), Check.REFUSED);
        Check.due("op 11", e.add(0, 11, 0, 0), Check.REFUSED);
        Check.due("op of the least int", e.add(0, Integer.MIN_VALUE, 0, 0), Check.REFUSED);
        Check.due("nothing was added", e.count(10), 0);
    }

    private static void limits(String what, int op, int most, boolean first) {
        int[] tried = {Integer.MIN_VALUE, -1, 0, 3, 4, 14, 15, Integer.MAX_VALUE};
        for (int x : tried) {
            boolean fine = most < 0 || (x >= 0 && x <= most);
            int got = new FlowEngine().add(0, op, first ? x : 0, first ? 0 : x);
            Check.due(what + " = " + x, got, fine ? 0 : Check.REFUSED);
        }
    }

    private static void refusedBeforeFull() {
        FlowEngine e = new FlowEngine();
        for (int i = 0; i < 14; i++) {
            e.add(0, Check.SET, 0, 0);
        }
        Check.due("wrong number and full", e.add(0, Check.SET, 4, 0), Check.REFUSED);
    }

    private static void forgets() {
        FlowEngine e = Check.with(Check.in(Check.AWAIT, 0, 0));
        Check.program(e, 1, Check.in(Check.AWAIT, 0, 0));
        e.start(0, 0);
        e.start(1, 0);
        e.start(0, 0);
        e.signal(2, 0, 5);
        Check.due("add that is refused", e.add(0, Check.SET, 9, 0), Check.REFUSED);
        Check.due("and forgets none", e.flow(0, 7), 0);
        Check.due("add", e.add(0, Check.END, 0, 0), 1);
        Check.due("of the program", e.flow(0, 7), 1);
        Check.due("of another program", e.flow(1, 7), 0);
        Check.due("that has ended", e.flow(2, 7), 0);
        e.forget(1);
        Check.due("add behind a forget", e.add(1, Check.END, 0, 0), 1);
        Check.due("is forgotten still", e.flow(1, 7), 1);
    }
}
