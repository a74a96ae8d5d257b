/** The boundary cases of the whole document, sentence by sentence. */
public final class EdgesTest {
    public static void main(String[] args) {
        GameEdges.run();
        BallEdges.run();
        HitEdges.run();
        DrainEdges.run();
        PredictionEdges.run();
        RecordEdges.run();
        TextEdges.run();
        UndoEdges.run();
        Edges.checkThatNothingIsLeftOut();
        Check.finish();
    }
}
