import java.io.IOException;
import java.nio.file.Files;
import java.nio.file.Path;
import java.util.regex.Matcher;
import java.util.regex.Pattern;

/** Does the examples of README.md, so that the page tells no answer that isn't one. */
public final class ReadmeTest {
    private static final Pattern TYPE = Pattern.compile("type\\(sheet, (\"[^\"]+\")\\);");
    private static final Pattern CALL = Pattern.compile("sheet\\.(\\w+\\([^)]*\\));\\s+// (-?\\d+)\\b.*");
    /** Lines that only make the sheet, or tell what type() is. */
    private static final Pattern REST = Pattern.compile("|static .*|for .*|}|sheet\\.feed\\(text.*|ReactiveSheet sheet = .*");

    public static void main(String[] args) throws IOException {
        Check check = new Check("ReadmeTest");
        StringBuilder lines = new StringBuilder();
        boolean java = false;
        int calls = 0;
        for (String line : Files.readAllLines(Path.of("README.md"))) {
            String text = line.trim();
            if (text.startsWith("```")) {
                java = text.equals("```java");
            } else if (java) {
                Matcher type = TYPE.matcher(text);
                Matcher call = CALL.matcher(text);
                if (type.matches()) {
                    lines.append(type.group(1)).append(' ');
                } else if (call.matches()) {
                    lines.append(call.group(1)).append(" = ").append(call.group(2)).append('\n');
                    calls++;
                } else {
                    check.due("README.md: " + text, REST.matcher(text).matches() ? "is read" : "is not read", "is read");
                }
            }
        }
        check.due("README.md: examples", calls > 0 ? 1 : 0, 1);
        Lines.run(check, "README.md", lines.toString());
        check.end();
    }
}
