import java.io.IOException;
import java.nio.file.Files;
import java.nio.file.Path;
import java.util.regex.Matcher;
import java.util.regex.Pattern;

/** The example of README.md, read from there, call by call with the answers that it tells. */
public final class ReadmeTest {
    private static final Pattern TYPED = Pattern.compile("type\\(guard, \"([^\"]*)\"\\);");
    private static final Pattern CALL = Pattern.compile("guard\\.(\\w+)\\(([^)]*)\\); *// (-?\\d+): .*");
    private static final int LINES = 10;

    public static void main(String[] args) throws IOException {
        MailGuard guard = new MailGuard();
        int calls = 0;
        for (String line : example()) {
            Matcher typed = TYPED.matcher(line);
            Matcher call = CALL.matcher(line);
            if (typed.matches()) {
                type(guard, typed.group(1));
            } else if (call.matches()) {
                calls++;
                int argument = (int) (long) Long.decode(call.group(2));
                int want = Integer.parseInt(call.group(3));
                Probe.due(line, Probe.caught(() -> answer(guard, call.group(1), argument)), want);
            }
        }
        Probe.due("calls in the example at least " + LINES, calls >= LINES, true);
        Probe.end();
    }

    private static String[] example() throws IOException {
        String readme = Files.readString(Path.of("README.md"));
        int start = readme.indexOf("```java\n");
        int end = readme.indexOf("static void type(", start);
        Probe.due("an example", start >= 0 && end > start, true);
        return readme.substring(Math.max(0, start), Math.max(start, end)).split("\n");
    }

    private static void type(MailGuard guard, String text) {
        for (int i = 0; i < text.length(); i++) {
            guard.type(text.charAt(i));
        }
    }

    private static int answer(MailGuard guard, String name, int argument) {
        return switch (name) {
            case "row" -> guard.row(argument);
            case "check" -> guard.check(argument);
            case "latest" -> guard.latest(argument);
            case "asked" -> guard.asked(argument);
            case "policy" -> guard.policy(argument);
            default -> throw new IllegalArgumentException(name);
        };
    }
}
