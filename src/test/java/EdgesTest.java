import java.io.IOException;

/** Each sentence of the document that names an edge, with a run of its own. */
public final class EdgesTest {
    public static void main(String[] args) throws IOException {
        Check check = new Check("EdgesTest");
        Sentences sentences = new Sentences(check);
        TextEdges.hold(sentences);
        PhaseEdges.hold(sentences);
        FaultEdges.hold(sentences);
        StoreEdges.hold(sentences);
        sentences.askWhetherAllWereHeld();
        check.end();
    }
}
