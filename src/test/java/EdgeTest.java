/** Each sentence of the document, held at the edges that it names; in the end no words are left without a test. */
public final class EdgeTest {
    public static void main(String[] args) {
        CoreEdges.all();
        DialectEdges.all();
        ReadingEdges.all();
        TapeEdges.all();
        PathEdges.all();
        TableEdges.all();
        Refusals.all();
        Doc.allTold();
        Bench.end("EdgeTest");
    }
}
