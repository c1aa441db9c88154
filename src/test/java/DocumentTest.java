import java.io.IOException;

/** Each sentence of the document, with a run of its own; no word of it may be left without one. */
public final class DocumentTest {
    public static void main(String[] args) throws IOException {
        Check check = new Check("DocumentTest");
        Sentences sentences = new Sentences(check, new Document());
        PlainSentences.hold(sentences);
        TextEdges.hold(sentences);
        PhaseEdges.hold(sentences);
        FaultEdges.hold(sentences);
        StoreEdges.hold(sentences);
        sentences.askWhetherAllWereHeld();
        check.end();
    }
}
