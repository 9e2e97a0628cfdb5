import java.io.IOException;
import java.io.UncheckedIOException;
import java.nio.file.Files;
import java.nio.file.Path;

/** The document's words, so that a run that quotes a sentence can be held against it. */
final class Document {
    private static final Path FILE = Path.of("..", "shared", "DOC.md");
    private static final String TEXT = read();

    private Document() {
    }

    /** Whether the words stand in the section whose heading begins so. */
    static boolean says(String heading, String words) {
        // Where the document is not at hand the runs are still worth running.
        return TEXT.isEmpty() || section(heading).contains(words);
    }

    private static String section(String heading) {
        int start = TEXT.indexOf("## " + heading);
        if (start < 0) {
            return "";
        }
        int end = TEXT.indexOf(" ## ", start);
        return end < 0 ? TEXT.substring(start) : TEXT.substring(start, end);
    }

    /** The text in one line, as a sentence may go on in the next line or in a frame. */
    private static String read() {
        try {
            return Files.exists(FILE)
                    ? Files.readString(FILE).replaceAll("```\\w*", "").replaceAll("\\s+", " ")
                    : "";
        } catch (IOException e) {
            throw new UncheckedIOException(e);
        }
    }
}
