import java.io.IOException;

/** Each sentence of the document that names an edge has a test of its own, which says whose promise it is. */
public final class SentenceTests {
    private SentenceTests() {
    }

    public static void main(String[] args) throws IOException {
        Sentences.open();
        TermsEdges.run();
        RowEdges.run();
        TextEdges.run();
        ActEdges.run();
        ForetoldEdges.run();
        AskedEdges.run();
        Sentences.end();
        Check.end("SentenceTests");
    }
}
