import java.io.IOException;

/** Each sentence of the document that names an edge, by a test of its own. */
public final class EdgeTest {
    public static void main(String[] args) throws IOException {
        Edges edges = new Edges();
        TermEdges.all(edges);
        StoneEdges.all(edges);
        KilnEdges.all(edges);
        LotEdges.all(edges);
        AskEdges.all(edges);
        edges.finish();
    }
}
