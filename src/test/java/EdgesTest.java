/** Each sentence of the document at its edges: a sentence that no test of them quotes makes this test fail. */
public final class EdgesTest {
    public static void main(String[] args) {
        PlantEdges.test();
        ChangeEdges.test();
        TextEdges.test();
        HistoryEdges.test();
        CoreEdges.test();
        FallingEdges.test();
        TrussEdges.test();
        RefusedCalls.test();
        LongUse.test();
        Document.tellUnquoted();
        Check.finish();
    }
}
