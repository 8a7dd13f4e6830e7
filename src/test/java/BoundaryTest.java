/** Every sentence of the document, a test for each, with the last values on each side of its boundaries. */
public final class BoundaryTest {
    public static void main(String[] args) {
        TermsCases.run();
        ActCases.run();
        CallCases.run();
        AnswerCases.run();
        Sentence.allQuoted();
        Check.end("BoundaryTest");
    }
}
