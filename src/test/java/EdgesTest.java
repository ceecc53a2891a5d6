/** Every boundary sentence of the document, promise by promise; and that no words of the document are without a test. */
public final class EdgesTest {
    private static final int PROMISES = 44;

    public static void main(String[] args) {
        ValleyEdges.all();
        TextEdges.all();
        LinesEdges.all();
        NumbersEdges.all();
        RowsEdges.all();
        HostEdges.all();
        KeptEdges.all();
        for (int promise = Sentences.TERMS; promise <= PROMISES; promise++) Sentences.allQuoted(promise);
        Checks.finish();
    }
}
