/** For each sentence of the document that names a boundary case, a test of its own, found by its heading and its words. */
public final class SentenceTest {
    private SentenceTest() {
    }

    public static void main(String[] args) {
        Sentences sentences = new Sentences("SentenceTest");
        new EdgesOfTerms(sentences).all();
        new EdgesOfGame(sentences).all();
        new EdgesOfTexts(sentences).all();
        new EdgesOfLooks(sentences).all();
        new EdgesOfWhatWouldBe(sentences).all();
        sentences.end();
    }
}
