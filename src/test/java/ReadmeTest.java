import java.io.IOException;
import java.nio.file.Files;
import java.nio.file.Path;
import java.util.Arrays;
import java.util.regex.Matcher;
import java.util.regex.Pattern;

/** The example in README.md: its calls answer what stands behind them, and every call of the face is among them. */
public final class ReadmeTest {
    private static final String[] FACE = {
        "cell", "span", "knot", "size", "run", "board", "all", "worth", "yields", "may", "apart", "wood"
    };
    private static final Pattern MADE = Pattern.compile("SawGrids saw = new SawGrids\\((.*)\\);.*");
    private static final Pattern CALLED = Pattern.compile("saw\\.(\\w+)\\((.*?)\\); *// (-> (\\w+))?.*");

    public static void main(String[] args) throws IOException {
        Check.sentence("The public face");
        String text = Files.readString(Path.of("README.md"));
        int begin = text.indexOf("```java\n") + "```java\n".length();
        String example = text.substring(begin, text.indexOf("```", begin));
        SawGrids saw = null;
        for (String line : example.split("\n")) {
            Matcher made = MADE.matcher(line);
            Matcher called = CALLED.matcher(line);
            if (made.matches()) {
                int[] numbers = numbers(made.group(1));
                saw = new SawGrids(numbers[0], numbers[1]);
            } else if (saw != null && called.matches()) {
                String got = Calls.answer(saw, called.group(1), numbers(called.group(2)));
                String due = called.group(4) == null ? "null" : called.group(4);
                Check.yes(line + " answered " + got, got.equals(due));
            } else {
                Check.yes("a call: " + line, false);
            }
        }
        for (String name : FACE) {
            Check.yes(name + " is in the example", example.contains("saw." + name + "("));
        }
        Check.end("ReadmeTest");
    }

    private static int[] numbers(String list) {
        return Arrays.stream(list.split(", *")).filter(one -> !one.isEmpty()).mapToInt(ReadmeTest::number).toArray();
    }

    private static int number(String text) {
        return text.equals("true") ? 1 : text.equals("false") ? 0 : Integer.parseInt(text);
    }
}
