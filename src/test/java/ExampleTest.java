import java.io.IOException;
import java.nio.file.Files;
import java.nio.file.Path;
import java.util.regex.Matcher;
import java.util.regex.Pattern;

/** What README.md shows: its calls are read from it, row by row, and answer as it says. */
public final class ExampleTest {
    private static final Pattern CALL = Pattern.compile("x\\.(\\w+)\\(([^)]*)\\);(?:\\s*// (-?\\d+).*)?");
    private static final Pattern TELL = Pattern.compile("tell\\(x, \"([^\"]*)\"\\);");

    public static void main(String[] args) throws IOException, ReflectiveOperationException {
        StringBuilder story = new StringBuilder();
        int calls = 0;
        for (String row : Files.readAllLines(Path.of("README.md"))) {
            Matcher tell = TELL.matcher(row);
            Matcher call = CALL.matcher(row);
            if (tell.matches()) {
                story.append("tell ").append(tell.group(1)).append('\n');
            } else if (call.matches()) {
                // A row without an answer is one that answers 0.
                String due = call.group(3) == null ? "0" : call.group(3);
                story.append(call.group(1)).append(' ').append(call.group(2).replace(",", "")).append(" = ").append(due).append('\n');
                calls++;
            }
        }
        Check.due("README.md shows calls: " + calls, calls >= 30 ? 1 : 0, 1);
        Story.part("README.md", story.toString());
        Check.finish();
    }
}
