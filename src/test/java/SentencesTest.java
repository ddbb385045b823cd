import java.io.IOException;
import java.nio.file.Path;

/** The terms and the promises 1 to 24 of the document, each sentence with rows of its own. */
public final class SentencesTest {
    public static void main(String[] args) throws IOException {
        Sentences s = new Sentences(Path.of("../shared/DOC.md"));
        NameSentences.tell(s);
        EpochSentences.tell(s);
        TextSentences.tell(s);
        ChangeSentences.tell(s);
        TagSentences.tell(s);
        TableSentences.tell(s);
        ViewSentences.tell(s);
        s.end();
    }
}
