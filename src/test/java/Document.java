import java.io.IOException;
import java.nio.file.Files;
import java.nio.file.Path;

/** The document's text, so that a test that quotes a sentence of it is known to quote it rightly. */
final class Document {
    private static final Path FILE = Path.of("../shared/DOC.md");
    private static final String TEXT = read();

    private Document() {
    }

    /** Whether the words stand before the first promise (the terms do) or at the promise itself. */
    static boolean says(int promise, String words) {
        return part("# OrderMoney", "## Promise 1:").contains(words)
            || part("## Promise " + promise + ":", "## ").contains(words);
    }

    private static String part(String from, String to) {
        int start = TEXT.indexOf(from);
        if (start < 0) {
            return "";
        }
        int end = TEXT.indexOf(to, start + from.length());
        return TEXT.substring(start, end < 0 ? TEXT.length() : end);
    }

    private static String read() {
        try {
            return Files.readString(FILE);
        } catch (IOException e) {
            System.out.println(FILE + " can't be read, so no sentence is found in it: " + e);
            return "";
        }
    }
}
