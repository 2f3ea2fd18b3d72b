import java.io.IOException;
import java.nio.file.Files;
import java.nio.file.Path;

/** The document, so that a test can tell whether the words that it stands for are still there. */
final class Document {
    private static final Path PLACE = Path.of("../shared/DOC.md");
    private static final String TEXT = read();

    private Document() {
    }

    /** Where a line ends does not matter. A board can be tested without the document: then no words are missed. */
    static boolean says(String words) {
        return TEXT.isEmpty() || TEXT.contains(words);
    }

    private static String read() {
        try {
            return Files.readString(PLACE).replaceAll("\\s+", " ");
        } catch (IOException e) {
            System.out.println(PLACE + " can't be read: the words of the tests are not compared with it");
            return "";
        }
    }
}
