/** Every sentence of the document that names a boundary case: see Edges. */
public final class EdgeTest {
    public static void main(String[] args) throws Exception {
        Edges.open();
        State.questionsTell();
        TapeEdges.all();
        KeyEdges.all();
        ClaimEdges.all();
        PolicyEdges.all();
        JsonEdges.all();
        CborEdges.all();
        VerifyEdges.all();
        ToldEdges.all();
        Edges.close();
        Bench.close();
    }
}
