/**
 * For each sentence of the document a test of its own, named by the sentence's words: the boundary
 * cases that it names (too small, too large, empty, full, wrapping around, refused).
 */
public final class BoundaryTest {
    public static void main(String[] args) {
        TermsBoundaries.run();
        ProofBoundaries.run();
        HandshakeBoundaries.run();
        TokenBoundaries.run();
        PacketBoundaries.run();
        ConstantBoundaries.run();
        CallBoundaries.run();
        TransferBoundaries.run();
        RelayBoundaries.run();
        ReadingBoundaries.run();
        Bench.dueAllSentences();
        Bench.finish();
    }
}
