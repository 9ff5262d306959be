import java.io.IOException;
import java.nio.file.DirectoryStream;
import java.nio.file.Files;
import java.nio.file.Path;
import java.util.Map;
import java.util.TreeMap;
import java.util.regex.Matcher;
import java.util.regex.Pattern;

/**
 * Each sentence that a test quotes (Due.says) stands in the document, in the part that the test names. With an
 * argument it tells what of the document's promises no test quotes.
 */
public final class QuotesTest {
    private static final Path DOC = Path.of("../shared/DOC.md");
    private static final Pattern SAYS =
        Pattern.compile("due\\.says\\(\\s*\"([^\"]*)\",\\s*(\"[^\"]*\"(?:\\s*\\+\\s*\"[^\"]*\")*)\\s*\\)");

    private static final Due due = new Due("QuotesTest");
    private static final Map<String, String> parts = new TreeMap<>();
    private static final Map<String, String> left = new TreeMap<>();

    public static void main(String[] args) throws IOException {
        if (!Files.exists(DOC)) {
            System.out.println("QuotesTest: there is no document");
            return;
        }
        readParts();
        left.putAll(parts);
        try (DirectoryStream<Path> tests = Files.newDirectoryStream(Path.of("src/test/java"), "*Test.java")) {
            for (Path test : tests) {
                look(test);
            }
        }
        if (args.length > 0) {
            left.forEach((part, words) -> System.out.println(part + ": " + words));
        }
        due.end();
    }

    private static void readParts() throws IOException {
        String part = "";
        for (String line : Files.readAllLines(DOC)) {
            if (line.startsWith("## Terms")) {
                part = "Refusals";
            } else if (line.startsWith("## ")) {
                part = line.substring(3).replaceAll(":.*", "");
            } else if (line.startsWith("==== ")) {
                part = "Part " + line.charAt(5);
                parts.merge(part, line.substring(6), String::concat);
            } else {
                parts.merge(part, " " + line, String::concat);
            }
        }
        parts.replaceAll((name, words) -> words.replaceAll("\\s+", " "));
    }

    private static void look(Path test) throws IOException {
        String text = Files.readString(test);
        int quotes = 0;
        Matcher m = SAYS.matcher(text);
        while (m.find()) {
            quotes++;
            String part = m.group(1);
            String words = m.group(2).replaceAll("\"\\s*\\+\\s*\"", "").replaceAll("^\"|\"$", "");
            boolean stands = parts.getOrDefault(part, "").contains(words);
            due.is(test.getFileName() + ": \"" + words + "\" in " + part, stands ? 1 : 0, 1);
            left.computeIfPresent(part, (name, rest) -> rest.replace(words, " ~ "));
        }
        due.is(test.getFileName() + ": quotes that are read", quotes, text.split("due\\.says\\(").length - 1);
    }
}
