import java.io.IOException;

/** Each sentence of the document that names a boundary case, by a test of its own. */
public final class EdgesTest {
    private EdgesTest() {
    }

    public static void main(String[] args) throws IOException {
        Due due = new Due();
        Sentences sentences = new Sentences(due);
        new LanternEdges(due, sentences).all();
        new WireEdges(due, sentences).all();
        new LoopEdges(due, sentences).all();
        new ComingEdges(due, sentences).all();
        new TextEdges(due, sentences).all();
        new AccountEdges(due, sentences).all();
        new CodeEdges(due, sentences).all();
        new DoubtEdges(due, sentences).all();
        sentences.namesNoEdge("What it is", "Logic of lanterns: ");
        sentences.namesNoEdge("What it is", "what later calls answer is free.");
        sentences.lookForGaps();
        due.end("EdgesTest");
    }
}
