import java.io.IOException;
import java.nio.file.Files;
import java.nio.file.Path;
import java.util.regex.Matcher;
import java.util.regex.Pattern;

/** The example of README.md: each call answers what stands behind it. Run from the project's root. */
public final class ReadmeTest extends Bench {
    public static void main(String[] args) throws IOException {
        new ReadmeTest().all();
    }

    private void all() throws IOException {
        check.about("README.md");
        String readme = Files.readString(Path.of("README.md"));
        Matcher text = Pattern.compile("char c : \"([^\"]*)\"").matcher(readme);
        check.due("there is a text", text.find());
        type(text.group(1));
        Matcher call = Pattern.compile("rings\\.(\\w+\\([-\\d, ]*\\)); *// (-?\\d+)").matcher(readme);
        int calls = 0;
        while (call.find()) {
            due(call.group(1), Calls.make(x, call.group(1)), Long.parseLong(call.group(2)));
            calls++;
        }
        due("calls of the example", calls, 11);
        check.end();
    }
}
