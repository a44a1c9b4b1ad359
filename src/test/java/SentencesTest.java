import java.io.IOException;
import java.nio.file.Path;

/** The document, sentence by sentence: each has a test of its own that quotes it. */
public final class SentencesTest {
    public static void main(String[] args) throws IOException {
        Held held = new Held(Document.read(Path.of("../shared/DOC.md")));
        HeadSentences.hold(held);
        FileSentences.hold(held);
        GoodSentences.hold(held);
        SavingSentences.hold(held);
        LifeSentences.hold(held);
        SaveSentences.hold(held);
        EntrySentences.hold(held);
        DiskSentences.hold(held);
        held.noneIsLeftOut();
        Check.end();
    }
}
