import java.io.IOException;
import java.io.UncheckedIOException;
import java.nio.file.Files;
import java.nio.file.Path;

/** The sentences of the document that tests are named after, so that each can be found in it. */
final class Sentence {
    private static final Path DOCUMENT = Path.of("../shared/DOC.md");
    private static final String TEXT = text();

    private Sentence() {
    }

    private static String text() {
        try {
            return Files.readString(DOCUMENT).replaceAll("\\s+", " ");
        } catch (IOException e) {
            throw new UncheckedIOException(e);
        }
    }

    /** What is looked at from here on is about a sentence, given in the document's very words. */
    static void is(String words) {
        Due.yes("\"" + words + "\" in the document", TEXT.contains(words));
        Due.about(words);
    }
}
