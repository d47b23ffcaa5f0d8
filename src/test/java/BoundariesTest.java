import java.io.IOException;

/** Each sentence of the document that names a boundary, by a test of its own, on objects of its own. */
public final class BoundariesTest {
    private BoundariesTest() {
    }

    public static void main(String[] args) throws IOException {
        Sentences sentences = new Sentences();
        TermEdges.all(sentences);
        PromiseEdges.all(sentences);
        Refusals.all(sentences);
        sentences.end();
    }
}
