import java.io.IOException;
import java.nio.file.Files;
import java.nio.file.Path;
import java.util.ArrayList;
import java.util.List;

/** Texts that tests read: the document, the program's own lines, README.md. */
final class Document {
    static final Path PROGRAM = Path.of("src/main/java/FlowerClock.java");
    static final Path README = Path.of("README.md");
    private static final Path DOCUMENT = Path.of("../shared/DOC.md");

    private Document() {
    }

    static String text() {
        return read(DOCUMENT);
    }

    static String read(Path file) {
        try {
            return Files.readString(file);
        } catch (IOException failure) {
            throw new IllegalStateException("no text at " + file, failure);
        }
    }

    /** The lines of the first block of Java code in a text. */
    static List<String> code(String text) {
        List<String> lines = new ArrayList<>();
        boolean inside = false;
        for (String line : text.split("\n")) {
            if (inside && line.startsWith("```")) {
                return lines;
            }
            if (inside) {
                lines.add(line.trim());
            }
            inside |= line.startsWith("```java");
        }
        return lines;
    }
}
