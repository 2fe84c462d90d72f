/** Sentence by sentence: each that names a bound has a test of its own, and each is named. */
public final class BoundsTest {
    private BoundsTest() {
    }

    public static void main(String[] args) {
        BoundsOfTerms.testAll();
        BoundsOfPromises.testAll();
        Sentences.checkDocument();
        Check.end();
    }
}
