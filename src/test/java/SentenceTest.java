import java.io.IOException;
import java.nio.file.Files;
import java.nio.file.Path;
import java.util.List;

/**
 * Each sentence of the document's terms and promises has a test that names it, and holds; a sentence without one fails,
 * too. Argument: DOC.md.
 */
public final class SentenceTest {
    private static final int PROMISES = 42;

    private SentenceTest() {
    }

    public static void main(String[] arguments) throws IOException {
        Document document = new Document(Files.readString(Path.of(arguments[0])));
        int checks = 0;
        int failed = 0;
        for (Sentences part : List.of(new TermsSentences(document), new MakingSentences(document),
                new AskingSentences(document))) {
            part.all();
            checks += part.checks();
            failed += part.failures();
        }
        for (String words : document.unquoted()) {
            failed++;
            System.out.println("no test names " + words);
        }
        for (int promise = 1; promise <= PROMISES; promise++) {
            if (!document.has(String.valueOf(promise))) {
                failed++;
                System.out.println("promise " + promise + " was not found in the document");
            }
        }
        System.out.println(checks + " checks under sentences of the document, " + failed + " failures");
        if (failed != 0) System.exit(1);
    }
}
