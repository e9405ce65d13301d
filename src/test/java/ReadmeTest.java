import java.io.IOException;
import java.nio.charset.StandardCharsets;
import java.nio.file.Files;
import java.nio.file.Path;
import java.util.HashMap;
import java.util.Map;
import java.util.regex.Matcher;
import java.util.regex.Pattern;

/** The calls that README.md shows answer what stands behind them. */
public final class ReadmeTest {
    private static final Pattern SHOWN = Pattern.compile(
            "(?:int (\\w+) = )?book\\.(\\w+)\\((.*)\\);\\s*// (-?\\d+)(?:: .*)?");
    private static final String FIRST = "AtelierBook book = new AtelierBook();";

    public static void main(String[] args) throws IOException {
        String text = Files.readString(Path.of(args[1]), StandardCharsets.UTF_8);
        int start = text.indexOf("```java\n");
        int end = text.indexOf("```\n", start + 1);
        Checks.same("README.md shows calls", true, start >= 0 && end > start);
        if (start >= 0 && end > start) {
            play(text.substring(text.indexOf('\n', start) + 1, end).split("\n"));
        }
        Checks.end("ReadmeTest");
    }

    private static void play(String[] lines) {
        Checks.same("the first line", FIRST, lines[0]);
        AtelierBook book = new AtelierBook();
        Map<String, String> numbers = new HashMap<>();
        for (int line = 1; line < lines.length; line++) {
            Matcher shown = SHOWN.matcher(lines[line]);
            Checks.same("a call with its answer: " + lines[line], true, shown.matches());
            if (shown.matches()) {
                StringBuilder call = new StringBuilder(shown.group(2));
                for (String argument : shown.group(3).split(", *")) {
                    call.append(' ').append(numbers.getOrDefault(argument, argument));
                }
                String answer = Calls.answer(book, call.toString());
                Checks.same(lines[line], shown.group(4), answer);
                if (shown.group(1) != null) {
                    numbers.put(shown.group(1), answer);
                }
            }
        }
    }
}
