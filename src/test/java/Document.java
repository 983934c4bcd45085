import java.io.IOException;
import java.io.UncheckedIOException;
import java.nio.file.Files;
import java.nio.file.Path;

/** The text of the document, in which each test's sentence must be found. */
final class Document {
    private static final Path PLACE = Path.of("../shared/DOC.md");

    private final String[] sections;

    Document() {
        try {
            sections = Files.readString(PLACE).split("\n## ");
        } catch (IOException e) {
            throw new UncheckedIOException(e);
        }
    }

    /** Whether a section, told by the beginning of its title, has these words. */
    boolean holds(String section, String words) {
        for (String one : sections) {
            if (one.startsWith(section + ":") || one.startsWith(section + "\n")) {
                return one.contains(words);
            }
        }
        return false;
    }
}
