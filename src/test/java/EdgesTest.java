import java.io.IOException;

/** The boundary cases of the document, sentence by sentence: src/test/edges holds them. */
public final class EdgesTest {
    public static void main(String[] args) throws IOException {
        Edges[] all = {new NumberEdges(), new RefusalEdges(), new ActEdges(), new AskEdges()};
        for (Edges edges : all) {
            edges.go();
        }
        Sentences sentences = new Sentences();
        sentences.compare(Edges.told);
        System.out.println(Edges.cases + " cases, " + Edges.passed + " checks as due, " + Edges.failed + " not");
        if (Edges.failed != 0 || sentences.failed != 0) {
            System.exit(1);
        }
    }
}
