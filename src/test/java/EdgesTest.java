import java.io.IOException;

/**
 * Each boundary case that a sentence of the document names has a test of its own here, under
 * the words of that sentence; a sentence that no test names is a failure too.
 */
public final class EdgesTest {
    public static void main(String[] args) throws IOException {
        Edges edges = new Edges(Document.read());
        HeadEdges.all(edges);
        RunEdges.all(edges);
        GuessEdges.all(edges);
        SampleEdges.all(edges);
        CodeEdges.all(edges);
        BoxEdges.all(edges);
        FillEdges.all(edges);
        RefusalEdges.all(edges);
        PromiseEdges.all(edges);
        ToldEdges.all(edges);
        edges.end();
    }
}
