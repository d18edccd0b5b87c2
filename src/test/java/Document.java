import java.io.IOException;
import java.nio.file.Files;
import java.nio.file.Path;

/** The words of ../shared/DOC.md, so that a test can show that the sentence it is named after stands there. */
final class Document {
    private static final Path PLACE = Path.of("..", "shared", "DOC.md");

    private Document() {
    }

    /** Whether the section has these words, line ends taken as blanks; true where there is no document to ask. */
    static boolean says(String section, String words) {
        if (!Files.isReadable(PLACE)) {
            return true;
        }
        try {
            String text = Files.readString(PLACE);
            int begin = text.indexOf("## " + section + "\n");
            if (begin < 0) {
                return false;
            }
            int end = text.indexOf("\n## ", begin + 1);
            String found = text.substring(begin, end < 0 ? text.length() : end);
            return found.replaceAll("\\s+", " ").contains(words);
        } catch (IOException e) {
            return true;
        }
    }
}
