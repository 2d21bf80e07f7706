/** A test of each sentence of the document, at the edges that it names; a sentence without a test fails too. */
public final class EdgesTest {
    public static void main(String[] args) {
        LandEdges.all();
        HintEdges.all();
        TextEdges.all();
        WalkerEdges.all();
        ScoreEdges.all();
        ExceptionEdges.all();
        Edges.endOfDocument();
        Check.end();
    }
}
