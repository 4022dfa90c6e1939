import java.nio.file.Path;

/** The edges of each sentence of the document: Terms I to IV, promises 1 to 51. */
public final class EdgeTest {
    private EdgeTest() {
    }

    public static void main(String[] args) throws Exception {
        Sentence.read(Path.of(args.length > 0 ? args[0] : ".", "..", "shared", "DOC.md"));
        TextEdges.run();
        SpanEdges.run();
        WorldEdges.run();
        AskEdges.run();
        CallEdges.run();
        RefusalEdges.run();
        Sentence.endAll();
        Due.end("EdgeTest");
    }
}
