import java.io.IOException;

/** A test for each sentence of the document that names a boundary case, promise by promise. */
public final class SentenceTest {
    public static void main(String[] args) throws IOException {
        Sentences sentences = new Sentences();
        new OfficeSentences(sentences).run();
        new TextSentences(sentences).run();
        new HouseSentences(sentences).run();
        new ShopSentences(sentences).run();
        new ChangeSentences(sentences).run();
        sentences.finish();
    }
}
