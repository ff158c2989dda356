import java.io.IOException;
import java.io.UncheckedIOException;
import java.nio.file.Files;
import java.nio.file.Path;
import java.util.ArrayList;
import java.util.List;

/** The text of the document, so that tests can tell by its own words what they test. */
final class Document {
    private static final List<String> LINES = read();

    private Document() {
    }

    private static List<String> read() {
        try {
            return Files.readAllLines(Path.of("../shared/DOC.md"));
        } catch (IOException e) {
            throw new UncheckedIOException(e);
        }
    }

    /** The lines below a heading that begins so, up to the next heading. */
    private static List<String> below(String heading) {
        List<String> found = new ArrayList<>();
        boolean isBelow = false;
        for (String line : LINES) {
            if (line.startsWith("## ")) {
                isBelow = line.startsWith(heading);
            } else if (isBelow && !line.isEmpty()) {
                found.add(line);
            }
        }
        return found;
    }

    static List<String> purpose() {
        return below("## What it is");
    }

    /** The terms without the examples. */
    static List<String> terms() {
        List<String> found = below("## Terms");
        found.removeIf(line -> line.startsWith("Examples:") || line.startsWith("- "));
        return found;
    }

    /** The lines of the terms that are examples. */
    static List<String> examples() {
        List<String> found = below("## Terms");
        found.removeIf(line -> !line.startsWith("- "));
        return found;
    }

    static List<String> promise(int number) {
        return below("## Promise " + number + ":");
    }
}
