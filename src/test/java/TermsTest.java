import java.io.IOException;
import java.nio.file.Path;

/** A test for each sentence of the document's "Terms", at the boundaries that it names. */
public final class TermsTest {
    public static void main(String[] args) throws IOException {
        Sentences sentences = new Sentences(Path.of("../shared/DOC.md"));
        TermsOfWords.test(sentences);
        TermsOfSpelling.test(sentences);
        TermsOfCommittees.test(sentences);
        TermsOfPeople.test(sentences);
        sentences.allTested();
        Check.end("TermsTest");
    }
}
