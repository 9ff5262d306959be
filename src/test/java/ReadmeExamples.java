import java.io.IOException;
import java.nio.file.Files;
import java.nio.file.Path;
import java.util.List;
import java.util.regex.Matcher;
import java.util.regex.Pattern;

/**
 * Makes a program, ReadmeRuns, of the examples in README.md, in their order, which asks of each call that stands
 * at the start of a line whether it answers what stands behind it. Where that can't be told it says so and fails.
 */
public final class ReadmeExamples {
    private static final Pattern CALL = Pattern.compile(
        "((?:x|new DuelSeconds\\(\\))\\.\\w+\\(.*\\));\\s+//\\s(-?\\d+|DuelSeconds\\.[A-Z]+)(?::\\s.*)?");

    private final StringBuilder body = new StringBuilder();
    private int asked;
    private int wrong;

    public static void main(String[] args) throws IOException {
        ReadmeExamples examples = new ReadmeExamples();
        examples.read(Files.readAllLines(Path.of(args[0])));
        if (examples.asked == 0) {
            System.err.println(args[0] + " shows no call");
        }
        if (examples.asked == 0 || examples.wrong > 0) {
            System.exit(1);
        }
        Files.writeString(Path.of(args[1]), examples.program());
    }

    private void read(List<String> lines) {
        boolean isExample = false;
        for (int k = 0; k < lines.size(); k++) {
            String line = lines.get(k);
            if (line.startsWith("```")) {
                isExample = line.equals("```java");
            } else if (isExample) {
                take(k + 1, line);
            }
        }
    }

    private void take(int number, String line) {
        Matcher call = CALL.matcher(line);
        if (call.matches()) {
            asked++;
            String words = "line " + number + ", " + call.group(1);
            body.append("        due.is(\"").append(words.replace("\"", "\\\"")).append("\", ").append(call.group(1))
                .append(", ").append(call.group(2)).append(");\n");
        } else if (line.startsWith("x.") || line.startsWith("new ")) {
            wrong++;
            System.err.println("README.md, line " + number + " doesn't tell what the call answers: " + line);
        } else {
            body.append("        ").append(line).append("\n");
        }
    }

    private String program() {
        return "public final class ReadmeRuns {\n    public static void main(String[] args) {\n"
            + "        Due due = new Due(\"README.md\");\n" + body + "        due.end();\n    }\n}\n";
    }
}
