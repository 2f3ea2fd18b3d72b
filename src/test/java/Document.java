import java.io.IOException;
import java.io.UncheckedIOException;
import java.nio.file.Files;
import java.nio.file.Path;

/** The document, so that a test can tell whether the words that it stands for are still there. */
final class Document {
    private static final String TEXT = read();

    private Document() {
    }

    /** Where a line ends does not matter. */
    static boolean says(String words) {
        return TEXT.contains(words);
    }

    private static String read() {
        try {
            return Files.readString(Path.of("../shared/DOC.md")).replaceAll("\\s+", " ");
        } catch (IOException e) {
            throw new UncheckedIOException(e);
        }
    }
}
