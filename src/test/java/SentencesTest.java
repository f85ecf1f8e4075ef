import java.io.IOException;

/** Promises 1 to 36, sentence by sentence: each sentence of the document has a test of its own. */
public final class SentencesTest {
    public static void main(String[] args) throws IOException {
        Sentences s = new Sentences();
        TermsSentences.all(s);
        TextSentences.all(s);
        RopeSentences.all(s);
        PullSentences.all(s);
        AnswerSentences.all(s);
        LineSentences.all(s);
        AccountSentences.all(s);
        s.end();
    }
}
