/** Every sentence of the document, each with a test of its own at the edges that it names. */
public final class EdgesTest {
    private EdgesTest() {
    }

    public static void main(String[] args) throws Exception {
        Sentences doc = new Sentences();
        TermEdges.run(doc);
        AssetEdges.run(doc);
        SceneEdges.run(doc);
        FarmEdges.run(doc);
        doc.allAreTested();
        Check.end();
    }
}
