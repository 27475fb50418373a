import java.io.IOException;
import java.nio.file.Path;

/** Each sentence of the document that names a boundary, with a test of its own. */
public final class BoundariesTest {
    public static void main(String[] args) throws IOException {
        String root = args.length > 0 ? args[0] : ".";
        Edges edges = new Edges(Path.of(root, "..", "shared", "DOC.md"));
        DescriptionEdges.test(edges);
        RuleTextEdges.test(edges);
        MatchEdges.test(edges);
        RulePromiseEdges.test(edges);
        MessagePromiseEdges.test(edges);
        FiringPromiseEdges.test(edges);
        StatePromiseEdges.test(edges);
        edges.end();
        Script.end();
    }
}
