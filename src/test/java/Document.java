import java.io.IOException;
import java.nio.file.Files;
import java.nio.file.Path;

/** The document that the tests quote, so that no test names a sentence that it does not say. */
final class Document {
    private static final Path PLACE = Path.of("../shared/DOC.md");
    private static final String TEXT = read();

    private Document() {
    }

    private static String folded(String text) {
        return text.replaceAll("\\s+", " ").trim();
    }

    private static String read() {
        try {
            return Files.isReadable(PLACE) ? folded(Files.readString(PLACE)) : "";
        } catch (IOException e) {
            throw new IllegalStateException("the document can't be read", e);
        }
    }

    /** Whether the words stand in the section; where there is no document to look at, it is taken for granted. */
    static boolean says(String section, String words) {
        if (TEXT.isEmpty()) {
            return true;
        }
        int from = TEXT.indexOf("## " + section + " ");
        if (from < 0) {
            return false;
        }
        int next = TEXT.indexOf(" ## ", from);
        return TEXT.substring(from, next < 0 ? TEXT.length() : next).contains(folded(words));
    }
}
