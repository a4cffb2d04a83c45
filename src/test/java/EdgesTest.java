/**
 * The document read sentence by sentence, with the cases at its edges. Each test names the words that it tests, and
 * together they must quote all of the terms and the promises.
 */
public final class EdgesTest {
    public static void main(String[] args) {
        InstructionEdges.all();
        HistoryEdges.all();
        GoingOnEdges.all();
        ReplayEdges.all();
        TaskEdges.all();
        AnswerKindEdges.all();
        ProgramCallEdges.all();
        WorkflowCallEdges.all();
        AskingEdges.all();
        String rest = Document.firstNotQuoted();
        Check.due("words that no test quotes: " + rest, rest.isEmpty(), true);
        Check.end();
    }
}
