import java.io.IOException;
import java.nio.file.Path;

/** Each sentence of the document, with checks of its own: edges, wraps and refusals. */
public final class SentencesTest {
    private SentencesTest() {
    }

    public static void main(String[] args) throws IOException {
        Sentences s = new Sentences(new Document(Path.of("../shared/DOC.md")));
        new WholeSentences(s).run();
        new TermsOneSentences(s).run();
        new TermsTwoSentences(s).run();
        new TermsThreeSentences(s).run();
        new TermsFourSentences(s).run();
        new MenuSentences(s).run();
        new HourSentences(s).run();
        new PlanSentences(s).run();
        new SeenSentences(s).run();
        new SheetSentences(s).run();
        s.end();
    }
}
