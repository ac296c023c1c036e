/** The edges of all promises, each under the sentence of the document that names it. */
public final class BoundaryTest {
    private BoundaryTest() {
    }

    public static void main(String[] args) throws Exception {
        EdgesOfTerms.all();
        EdgesOfText.all();
        EdgesOfChanges.all();
        EdgesOfAsking.all();
        EdgesOfSecrets.all();
        EdgesOfListening.all();
        Edge.compareWithDocument();
        Check.end();
    }
}
