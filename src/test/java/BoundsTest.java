/** The boundary cases of the whole document, sentence by sentence. */
public final class BoundsTest {
    public static void main(String[] args) throws Exception {
        WaysBounds.run();
        EndBounds.run();
        LieBounds.run();
        MatchBounds.run();
        TextBounds.run();
        UndoBounds.run();
        CountBounds.run();
        WouldBounds.run();
        DigestBounds.run();
        SaidBounds.run();
        RefusedBounds.run();
        Sentences.check();
        Check.end("BoundsTest");
    }
}
