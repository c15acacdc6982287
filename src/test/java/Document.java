import java.io.IOException;
import java.nio.file.Files;
import java.nio.file.Path;

/** The document, so that the words that a test names can be looked for in it. */
final class Document {
    private static final Path PLACE = Path.of("..", "shared", "DOC.md");

    private final String text;

    Document() {
        String read = "";
        try {
            read = Files.readString(PLACE).replaceAll("\\s+", " ");
        } catch (IOException e) {
            System.out.println(PLACE + " can't be read: no words are looked for in it");
        }
        text = read;
    }

    /** How the head of a promise, of the Terms or of the first words begins. */
    static String nameOf(int promise) {
        if (promise == Edges.FIRST_WORDS) {
            return "What it is";
        }
        return promise == Edges.TERMS ? "Terms" : "Promise " + promise;
    }

    /** Whether words stand under a promise, or under the Terms. */
    boolean has(int promise, String words) {
        return !isRead() || section(promise).contains(words);
    }

    /** The public face, as Java. */
    String face() {
        String fence = "```";
        int from = text.indexOf(fence + "java ");
        int to = from < 0 ? -1 : text.indexOf(fence, from + fence.length());
        return to < 0 ? "" : text.substring(from, to);
    }

    boolean isRead() {
        return !text.isEmpty();
    }

    /** What stands under a promise, or under the Terms, behind the head's own words. */
    String section(int promise) {
        String head = "## " + nameOf(promise) + (promise > Edges.TERMS ? ": " : " ");
        int from = text.indexOf(head);
        int to = from < 0 ? -1 : text.indexOf("## ", from + head.length());
        return to < 0 ? "" : text.substring(from + head.length(), to);
    }
}
