import java.io.IOException;
import java.nio.file.Path;

/** All promises and terms of ../shared/DOC.md: under each of their words a test of its own. */
public final class DocumentTest {
    public static void main(String[] args) throws IOException {
        Sentences document = new Sentences(Path.of("../shared/DOC.md"));
        new WordSentences(document).test();
        new LoopSentences(document).test();
        new EffectSentences(document).test();
        new StepSentences(document).test();
        new HeadSentences(document).test();
        new TellingSentences(document).test();
        document.end();
    }
}
