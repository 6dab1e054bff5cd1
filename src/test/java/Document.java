import java.io.IOException;
import java.nio.file.Files;
import java.nio.file.Path;

/**
 * The document as one long line with a place in it, so that a test that goes through its sentences can
 * neither leave one out nor have one that is not there.
 */
final class Document {
    private static final Path PATH = Path.of("..", "shared", "DOC.md");

    private final String text;
    private int place = 0;
    private boolean isLost;

    Document() throws IOException {
        text = read().replaceAll("\\s+", " ").strip();
        isLost = text.isEmpty();
    }

    /** Empty where there is no document: the class can be tested without it, only its words are not compared. */
    static String read() throws IOException {
        if (Files.isReadable(PATH)) {
            return Files.readString(PATH);
        }
        System.out.println(PATH + " is not here, so nothing is compared with its words");
        return "";
    }

    /** The next words of the document. */
    void says(String words) {
        if (isLost) {
            return;
        }
        if (!text.startsWith(words, place)) {
            Runs.fail("the document does not say: " + words + "\nbut: " + ahead());
            isLost = true;
            return;
        }
        place += words.length();
        skipSpace();
    }

    /** Code is for FaceTest: the whole face, and the line of it that each promise begins with. */
    void skipCode() {
        String fence = text.startsWith("```", place) ? "```" : "`";
        int end = text.indexOf(fence, place + fence.length());
        if (!isLost && text.startsWith(fence, place) && end >= 0) {
            place = end + fence.length();
            place += text.startsWith(":", place) ? 1 : 0;
            skipSpace();
        }
    }

    void end() {
        if (!isLost && place < text.length()) {
            Runs.fail("the document says more: " + ahead());
        }
    }

    private void skipSpace() {
        while (place < text.length() && text.charAt(place) == ' ') {
            place++;
        }
    }

    private String ahead() {
        return text.substring(place, Math.min(text.length(), place + 100)) + " ..";
    }
}
