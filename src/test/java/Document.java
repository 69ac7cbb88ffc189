import java.io.IOException;
import java.nio.file.Files;
import java.nio.file.Path;
import java.util.Set;
import java.util.TreeSet;
import java.util.regex.Matcher;
import java.util.regex.Pattern;

/** The document's text, so that a test that quotes a sentence of it is known to quote it rightly. */
final class Document {
    private static final Path FILE = Path.of("../shared/DOC.md");
    private static final String TEXT = read();

    private Document() {
    }

    /** Whether the words stand before the first promise (the terms do) or at the promise itself. */
    static boolean says(int promise, String words) {
        return part("# OrderMoney", "## Promise 1:").contains(words)
            || part("## Promise " + promise + ":", "## ").contains(words);
    }

    /** The methods of the public face, each as "int pay(int,long,int,long)". */
    static Set<String> methods() {
        Set<String> methods = new TreeSet<>();
        Matcher matcher = Pattern.compile("public (\\w+ \\w+)\\((.*)\\);").matcher(face());
        while (matcher.find()) {
            String types = matcher.group(2).replaceAll("(\\w+) \\w+", "$1").replace(", ", ",");
            methods.add(matcher.group(1) + "(" + types + ")");
        }
        return methods;
    }

    /** The constants of the public face, each as "NONE=-1". */
    static Set<String> constants() {
        Set<String> constants = new TreeSet<>();
        Matcher matcher = Pattern.compile("(\\w+) = (-\\d+)").matcher(face());
        while (matcher.find()) {
            constants.add(matcher.group(1) + "=" + matcher.group(2));
        }
        return constants;
    }

    private static String face() {
        return part("## The public face", "## Terms");
    }

    private static String part(String from, String to) {
        int start = TEXT.indexOf(from);
        if (start < 0) {
            return "";
        }
        int end = TEXT.indexOf(to, start + from.length());
        return TEXT.substring(start, end < 0 ? TEXT.length() : end);
    }

    private static String read() {
        try {
            return Files.readString(FILE);
        } catch (IOException e) {
            System.out.println(FILE + " can't be read, so no sentence is found in it: " + e);
            return "";
        }
    }
}
