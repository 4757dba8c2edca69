import java.io.IOException;

/**
 * The boundary cases, sentence by sentence. Each test is registered with the words of the document
 * that it tests, and its name begins with the promise or the step in which they stand.
 */
public final class BoundariesTest {
    private BoundariesTest() {
    }

    public static void main(String[] args) throws IOException {
        Sentences sentences = new Sentences();
        BoundariesOfTerms.run(sentences);
        BoundariesOfADay.run(sentences);
        BoundariesOfTheTown.run(sentences);
        BoundariesOfWhoLiesWhere.run(sentences);
        BoundariesOfWhatThereIs.run(sentences);
        BoundariesOfWhatWouldBe.run(sentences);
        sentences.checkThatNoneIsLeft();
        Check.finish("BoundariesTest");
    }
}
