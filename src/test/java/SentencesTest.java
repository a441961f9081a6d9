import java.io.IOException;

/** Every sentence of the document that names a boundary case has a test of its own, named by its words. */
public final class SentencesTest {
    private SentencesTest() { }

    public static void main(String[] args) throws IOException {
        Sentence.load();
        DocumentSentences.run();
        TextSentences.run();
        StateSentences.run();
        CallSentences.run();
        Sentence.allQuoted();
        Check.end();
    }
}
