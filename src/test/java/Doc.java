import java.io.IOException;
import java.io.UncheckedIOException;
import java.nio.file.Files;
import java.nio.file.Path;

/** The document, so that a test can name the sentence that it is about and be wrong if there is none such. */
final class Doc {
    private static final Path PLACE = Path.of("../shared/DOC.md");

    private final boolean isHere = Files.exists(PLACE);
    private final String text;

    /** The tests of the class do not hang on the document's being here; their quotes are then not looked up. */
    Doc() {
        try {
            text = isHere ? Files.readString(PLACE) : "";
        } catch (IOException e) {
            throw new UncheckedIOException(e);
        }
        if (!isHere) {
            System.out.println("no " + PLACE + ": quotes are not looked up");
        }
    }

    boolean says(String quote) {
        return !isHere || text.contains(quote);
    }

    /** Whether the sentence stands under the heading of that promise. */
    boolean promises(int number, String quote) {
        int from = text.indexOf("\n## Promise " + number + ":");
        if (from < 0) {
            return !isHere;
        }
        int to = text.indexOf("\n## ", from + 1);
        return text.substring(from, to < 0 ? text.length() : to).contains(quote);
    }
}
