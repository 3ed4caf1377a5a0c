import java.io.IOException;
import java.nio.file.Files;
import java.nio.file.Path;
import java.util.List;

/**
 * Walks through a part of the document. Each quote must be just what the document says next, so that a test that
 * reaches the part's end has a scene for every sentence of it. Where the document is missing the scenes are played
 * all the same, and only the quotes are not compared.
 */
final class Document {
    private static final Path FILE = Path.of("..", "shared", "DOC.md");

    private final Due due;
    private final String text;
    private final boolean isThere;
    private int at;

    private Document(Due due, String text, boolean isThere) {
        this.due = due;
        this.text = text;
        this.isThere = isThere;
    }

    /** What stands behind one line of the document and ahead of another. */
    static Document between(Due due, String line, String nextLine) {
        List<String> lines = lines();
        int from = lines.indexOf(line);
        int till = lines.indexOf(nextLine);
        if (!lines.isEmpty()) {
            due.is("the document has \"" + line + "\", then \"" + nextLine + "\"", from >= 0 && from < till ? 1 : 0, 1);
        }
        StringBuilder text = new StringBuilder();
        for (int i = from + 1; i < till; i++) {
            if (!lines.get(i).startsWith("```")) {
                text.append(lines.get(i)).append(' ');
            }
        }
        return new Document(due, plain(text.toString()), !lines.isEmpty());
    }

    /** No lines at all where the document is missing. */
    static List<String> lines() {
        try {
            if (Files.exists(FILE)) {
                return Files.readAllLines(FILE);
            }
        } catch (IOException e) {
            throw new IllegalStateException("the document can't be read", e);
        }
        System.out.println("no document at " + FILE + ": it is not compared");
        return List.of();
    }

    /** Without marks of headings and terms, and with one space between two words. */
    private static String plain(String text) {
        return text.replaceAll("[=#]{2,} ", "").replaceAll("\\s+", " ").trim();
    }

    /** Edges for the next words of the document. */
    Edges says(String words) {
        String quote = plain(words);
        if (isThere) {
            due.is("\"" + quote + "\" comes next in the document: \"" + next() + "\"",
                text.startsWith(quote, at) ? 1 : 0, 1);
        }
        int found = text.indexOf(quote, at);
        if (found >= 0) {
            at = found + quote.length();
            while (at < text.length() && text.charAt(at) == ' ') {
                at++;
            }
        }
        return Edges.of(due, quote);
    }

    void ends() {
        due.is("the document goes on without a test: \"" + next() + "\"", text.length() - at, 0);
    }

    private String next() {
        return text.substring(at, Math.min(text.length(), at + 60));
    }
}
