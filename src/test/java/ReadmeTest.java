import java.io.IOException;
import java.lang.reflect.Method;
import java.lang.reflect.Modifier;
import java.nio.file.Files;
import java.nio.file.Path;
import java.util.regex.Matcher;
import java.util.regex.Pattern;

/** README.md says how to use the class: its example answers as it says, and it names every call. */
public final class ReadmeTest {
    private static final Pattern EXAMPLE = Pattern.compile("```java\n(.*?)```", Pattern.DOTALL);
    private static final Pattern TEXT = Pattern.compile("for \\(char sign : (\".*\")\\.toCharArray\\(\\)\\) \\{");
    private static final Pattern CALL = Pattern.compile("barrels\\.(\\w+\\(.*?\\)); +// -> ([^, ]+)(,? .*)?");

    public static void main(String[] arguments) throws IOException {
        String readme = Files.readString(Path.of(System.getProperty("readme", "README.md")));
        Matcher example = EXAMPLE.matcher(readme);
        while (example.find()) {
            Calls.run("README.md's example", calls(example.group(1)));
        }
        for (Method method : TwistyBarrels.class.getDeclaredMethods()) {
            if (Modifier.isPublic(method.getModifiers()) && !readme.contains("`" + method.getName() + "`")) {
                Calls.tellWrong("README.md does not name " + method.getName());
            }
        }
        Calls.end();
    }

    /** A text that is appended sign by sign stands ahead of the call that appends one. */
    private static String calls(String lines) {
        StringBuilder calls = new StringBuilder();
        String text = "";
        for (String line : lines.split("\n")) {
            Matcher begin = TEXT.matcher(line.strip());
            Matcher call = CALL.matcher(line.strip());
            if (begin.matches()) {
                text = begin.group(1);
            } else if (call.matches()) {
                calls.append(call.group(1).replace("append(sign)", "append " + text));
                calls.append(" -> ").append(call.group(2)).append('\n');
            } else if (line.contains("barrels.")) {
                Calls.tellWrong("README.md: a call without its answer: " + line);
            }
        }
        return calls.toString();
    }
}
