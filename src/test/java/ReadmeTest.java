import java.io.IOException;
import java.nio.file.Files;
import java.nio.file.Path;
import java.util.regex.Matcher;
import java.util.regex.Pattern;

/** README.md names every call of the document's face, with its arguments, every constant, and every test. */
public final class ReadmeTest {
    private static final Pattern CALL = Pattern.compile("public (?:int|long) (\\w+)\\(([^)]*)\\);");
    private static final Pattern CONSTANTS = Pattern.compile("public static final \\w+ ([^;]*);");
    private static final Due due = new Due("ReadmeTest");

    public static void main(String[] args) throws IOException {
        String readme = Files.readString(Path.of("README.md"));
        String doc = Files.readString(Path.of("../shared/DOC.md"));
        calls(readme, doc);
        constants(readme, doc);
        tests(readme);
        due.end();
    }

    private static void calls(String readme, String doc) {
        Matcher m = CALL.matcher(doc);
        int calls = 0;
        while (m.find()) {
            calls++;
            String call = m.group(1) + "(" + m.group(2).replaceAll("(int|long|boolean) ", "") + ")";
            names(readme, "`" + call + "`");
        }
        due.is("calls of the face", calls, 29);
    }

    private static void constants(String readme, String doc) {
        Matcher m = CONSTANTS.matcher(doc);
        int constants = 0;
        while (m.find()) {
            for (String one : m.group(1).split(",")) {
                constants++;
                names(readme, "`" + one.replaceAll("=.*", "").trim() + "`");
            }
        }
        due.is("constants of the face", constants, 6);
    }

    private static void tests(String readme) throws IOException {
        try (var files = Files.newDirectoryStream(Path.of("src/test/java"), "*Test.java")) {
            for (Path file : files) {
                names(readme, "`" + file.getFileName().toString().replace(".java", "") + "`");
            }
        }
    }

    private static void names(String readme, String words) {
        due.is("README.md names " + words, readme.contains(words) ? 1 : 0, 1);
    }
}
