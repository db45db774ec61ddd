import java.io.IOException;
import java.nio.file.Files;
import java.nio.file.Path;
import java.util.Arrays;
import java.util.List;

/** One line of ../shared/DOC.md, and which of its words stand in a sentence that has a test. */
final class DocumentLine {
    private static final Path DOCUMENT = Path.of("..", "shared", "DOC.md");

    private final boolean read;
    private final String text;
    private final boolean[] covered;

    /** A promise's line begins with the call that it is for, which is no sentence. */
    private DocumentLine(boolean read, String text) {
        this.read = read;
        this.text = text;
        covered = new boolean[text.length()];
        int callsEnd = text.startsWith("`") ? text.indexOf("`:") + 1 : 0;
        Arrays.fill(covered, 0, callsEnd, true);
    }

    static DocumentLine thatBegins(String beginning) {
        List<String> lines;
        try {
            lines = Files.readAllLines(DOCUMENT);
        } catch (IOException notThere) {
            // What the class answers can be tested without the document.
            System.out.println("can't read " + DOCUMENT + ": the sentences are not held against it");
            return new DocumentLine(false, "");
        }
        for (String line : lines) {
            if (line.strip().startsWith(beginning)) {
                return new DocumentLine(true, line.strip());
            }
        }
        return new DocumentLine(true, "");
    }

    boolean isMissing() {
        return read && text.isEmpty();
    }

    /** Whether the words stand in the line just once, so that it is plain which ones are meant. */
    boolean cover(String words) {
        int at = text.indexOf(words);
        if (at < 0 || at != text.lastIndexOf(words)) {
            return !read;
        }
        Arrays.fill(covered, at, at + words.length(), true);
        return true;
    }

    String wordsLeft() {
        StringBuilder left = new StringBuilder();
        for (int i = 0; i < text.length(); i++) {
            left.append(covered[i] || !Character.isLetterOrDigit(text.charAt(i)) ? ' ' : text.charAt(i));
        }
        return left.toString().strip().replaceAll(" +", " ");
    }
}
