import java.io.IOException;
import java.nio.file.Files;
import java.nio.file.Path;
import java.util.ArrayList;
import java.util.LinkedHashMap;
import java.util.List;
import java.util.Map;
import java.util.regex.Matcher;
import java.util.regex.Pattern;

/** What tests look up in the document. */
final class Document {
    private static final Path PATH = Path.of("../shared/DOC.md");

    private Document() {
    }

    static boolean isThere() {
        boolean isThere = Files.exists(PATH);
        if (!isThere) {
            System.out.println("  " + PATH + " is not there, so nothing is looked up in it");
        }
        return isThere;
    }

    static String text() throws IOException {
        return Files.readString(PATH);
    }

    static String inOneLine(String text) {
        return text.strip().replaceAll("\\s+", " ");
    }

    /** The constructor and the methods of the face, in the document's order. */
    static List<String> face() throws IOException {
        List<String> found = new ArrayList<>();
        Matcher block = Pattern.compile("```java\\n(.*?)```", Pattern.DOTALL).matcher(text());
        if (block.find()) {
            Matcher line = Pattern.compile("public ([^;{]*\\([^;{]*);").matcher(block.group(1));
            while (line.find()) {
                found.add("public " + inOneLine(line.group(1)));
            }
        }
        return found;
    }

    /** The words that stand ahead of calls, and the names of these calls. */
    static Map<String, List<String>> groups() throws IOException {
        Map<String, List<String>> found = new LinkedHashMap<>();
        Matcher ahead = Pattern.compile("Ahead of the calls (.*?) the interface says: (----.*?)\\.")
            .matcher(inOneLine(text()));
        while (ahead.find()) {
            List<String> calls = new ArrayList<>();
            Matcher call = Pattern.compile("`(\\w+)`").matcher(ahead.group(1));
            while (call.find()) {
                calls.add(call.group(1));
            }
            found.put(ahead.group(2), calls);
        }
        return found;
    }
}
