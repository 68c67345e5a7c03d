import java.io.IOException;
import java.nio.file.Files;
import java.nio.file.Path;
import java.util.regex.Matcher;
import java.util.regex.Pattern;

/** The calls that README.md shows answer what is written behind them. Run from the project's folder, as .ci/run does. */
public final class ReadmeTest {
    private static final Due due = new Due("ReadmeTest");
    private static final String MADE = "FunnelFold store = new FunnelFold();";
    private static final Pattern CALL = Pattern.compile("store\\.(\\w+)\\((.*)\\); +// (throws )?(-?\\w+).*");

    public static void main(String[] args) throws IOException, ReflectiveOperationException {
        String text = Files.readString(Path.of("README.md"));
        int begin = text.indexOf("```java\n") + "```java\n".length();
        String[] lines = text.substring(begin, text.indexOf("```", begin)).split("\n");
        due.same("the first line", lines[0], MADE);
        FunnelFold store = new FunnelFold();
        for (int at = 1; at < lines.length; at++) {
            answersAsWritten(store, lines[at]);
        }
        due.end();
    }

    private static void answersAsWritten(FunnelFold store, String line) throws ReflectiveOperationException {
        Matcher call = CALL.matcher(line);
        if (!call.matches()) {
            due.same("a line of README.md", line, "a call with its answer");
            return;
        }
        String want = call.group(3) == null ? call.group(4) : "throws." + call.group(4);
        due.same(line, new Call(call.group(1), numbers(call.group(2))).on(store), want);
    }

    private static int[] numbers(String arguments) throws ReflectiveOperationException {
        String[] texts = arguments.isEmpty() ? new String[0] : arguments.split(", ");
        int[] numbers = new int[texts.length];
        for (int at = 0; at < texts.length; at++) {
            numbers[at] = number(texts[at]);
        }
        return numbers;
    }

    private static int number(String text) throws ReflectiveOperationException {
        String constant = "FunnelFold.";
        return text.startsWith(constant)
            ? FunnelFold.class.getField(text.substring(constant.length())).getInt(null)
            : Integer.parseInt(text);
    }
}
