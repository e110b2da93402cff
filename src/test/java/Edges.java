import java.io.IOException;
import java.nio.charset.StandardCharsets;
import java.nio.file.Files;
import java.nio.file.Path;

/**
 * Tests of boundary cases, each on a pot of its own and under the words of the document that name it.
 * The words must stand in the document as they are here, so that a change of it shows up.
 */
class Edges extends Bench {
    private static final Path DOCUMENT = Path.of("../shared/DOC.md");

    private final boolean documentIsThere = Files.isReadable(DOCUMENT);
    private final String document;
    private int edges = 0;

    Edges(Check check) throws IOException {
        super(check);
        document = documentIsThere ? plain(Files.readString(DOCUMENT, StandardCharsets.UTF_8)) : "";
    }

    private static String plain(String text) {
        return text.replaceAll("\\s+", " ");
    }

    /** One boundary case: the document's words, which case of theirs it is, and its test. */
    final void edge(String words, String which, Runnable test) {
        check.holds("the document says: " + words, !documentIsThere || document.contains(plain(words)));
        check.enter("\"" + words + "\", " + which);
        fresh();
        int asked = check.asked();
        test.run();
        check.holds("something was looked at", check.asked() > asked);
        fresh();
        check.leave();
        edges++;
    }

    final void finish() {
        System.out.println(edges + " boundary cases"
                + (documentIsThere ? "" : ", their words not looked up: there is no " + DOCUMENT));
        check.end();
    }
}
