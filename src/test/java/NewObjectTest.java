/** Promise 1: a new object. */
public final class NewObjectTest {
    public static void main(String[] args) {
        FlowEngine e = new FlowEngine();
        for (int what = 0; what <= 12; what++) {
            Check.due("count " + what, e.count(what), 0);
        }
        for (int w = 0; w < 6; w++) {
            for (int what = 0; what <= 13; what++) {
                Check.due("flow " + w + " " + what, e.flow(w, what), 0);
            }
            Check.due("entry of " + w, e.entry(w, 0, 0), Check.NONE);
            Check.due("remove " + w, e.remove(w), false);
            Check.due("forget " + w, e.forget(w), false);
            Check.due("signal " + w, e.signal(w, 0, 0), Check.REFUSED);
            Check.due("answer " + w, e.answer(w, true, 0), Check.REFUSED);
        }
        Check.due("length of the line", e.line(-1), 0);
        Check.due("line 0", e.line(0), Check.NONE);
        Check.due("take", e.take(), Check.NONE);

        Check.with(Check.in(Check.CALL, 0, 0)).start(0, 1);
        Check.due("objects are apart", new FlowEngine().count(10), 0);
        Check.end();
    }
}
