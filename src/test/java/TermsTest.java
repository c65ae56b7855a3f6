import java.io.IOException;

/** A test for each sentence of the document's part "Terms", with the edges that the sentence names. */
public final class TermsTest {
    public static void main(String[] args) throws IOException {
        Sentences sentences = Sentences.ofTerms();
        ReadingTerms.test(sentences);
        LayoutTerms.test(sentences);
        EditTerms.test(sentences);
        RuleTerms.test(sentences);
        sentences.end();
        Kit.end("TermsTest");
    }
}
