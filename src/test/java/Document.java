import java.io.IOException;
import java.io.UncheckedIOException;
import java.nio.file.Files;
import java.nio.file.Path;

/** The text of the document, in which each test's sentence must be found. */
final class Document {
    private static final Path PLACE = Path.of("../shared/DOC.md");

    /** Empty if the document is not at hand: the class can be tested without it, the quotations can't. */
    private final String[] sections;

    Document() {
        try {
            sections = Files.exists(PLACE) ? Files.readString(PLACE).split("\n## ") : new String[0];
        } catch (IOException e) {
            throw new UncheckedIOException(e);
        }
    }

    /** Whether a section, told by the beginning of its title, has these words. */
    boolean holds(String section, String words) {
        for (String one : sections) {
            if (one.startsWith(section + ":") || one.startsWith(section + "\n")) {
                return one.contains(words);
            }
        }
        return sections.length == 0;
    }
}
