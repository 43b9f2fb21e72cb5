/** All promises: a test for each sentence of the document that names a boundary case. */
public final class EdgeTest {
    public static void main(String[] args) {
        MapEdges.run();
        RuleEdges.run();
        BranchEdges.run();
        ConflictEdges.run();
        MergeEdges.run();
        HistoryEdges.run();
        ShapeEdges.run();
        WalkEdges.run();
        FieldEdges.run();
        SumEdges.run();
        RefusalEdges.run();
        Edge.everySentenceIsHeld();
        Check.end();
    }
}
