import java.io.IOException;
import java.io.UncheckedIOException;
import java.nio.file.Files;
import java.nio.file.Path;
import java.util.regex.Matcher;
import java.util.regex.Pattern;

/** The words of the document, so that what a test quotes stands there. */
final class Document {
    private static final Path PLACE = Path.of("../shared/DOC.md");
    private static final String TEXT = read();

    private Document() {
    }

    private static String read() {
        try {
            return Files.readString(PLACE);
        } catch (IOException unreadable) {
            throw new UncheckedIOException(unreadable);
        }
    }

    /** A heading is a line of its own: "FLATS", "## Promise 2: addFlat". */
    static boolean says(String heading, String words) {
        int from = ("\n" + TEXT).indexOf("\n" + heading + "\n");
        return from >= 0 && section(from + heading.length()).contains(words);
    }

    /** All that stands under the promise of this method. */
    static String promise(String method) {
        Matcher heading = Pattern.compile("(?m)^## Promise \\d+: " + method + "$").matcher(TEXT);
        if (!heading.find()) {
            throw new IllegalArgumentException("no promise of " + method);
        }
        return section(heading.end());
    }

    /** Up to the next line that is a heading. */
    private static String section(int from) {
        StringBuilder section = new StringBuilder();
        for (String line : TEXT.substring(from).split("\n")) {
            if (line.startsWith("#") || line.matches("[A-Z ]+")) {
                break;
            }
            section.append(line).append('\n');
        }
        return section.toString();
    }
}
