import java.io.IOException;
import java.nio.file.Files;
import java.nio.file.Path;
import java.util.Arrays;
import java.util.regex.Matcher;
import java.util.regex.Pattern;

/** The example in README.md: each call must have the answer that stands behind it. */
public final class ReadmeTest {
    private static final Pattern CALL = Pattern.compile("agent\\.(\\w+)\\(([-0-9, ]*)\\); *// (-?\\d+): .*");

    public static void main(String[] args) throws IOException {
        MailAgent agent = new MailAgent(5, 20, 60);
        boolean inside = false;
        for (String line : Files.readAllLines(Path.of("README.md"))) {
            if (line.startsWith("```")) {
                inside = line.equals("```java");
            } else if (inside) {
                follow(agent, line);
            }
        }
        Check.end();
    }

    private static void follow(MailAgent agent, String line) {
        Matcher call = CALL.matcher(line);
        if (call.matches()) {
            int[] arguments = Arrays.stream(call.group(2).split(", *")).filter(text -> !text.isEmpty())
                .mapToInt(Integer::parseInt).toArray();
            int answer = Calls.ask(agent, Calls.row(call.group(1), arguments));
            Check.due(line, answer, Integer.parseInt(call.group(3)));
        } else {
            Check.isTrue("a call with its answer: " + line, line.isEmpty() || line.startsWith("//")
                || line.startsWith("MailAgent agent = new MailAgent(5, 20, 60);"));
        }
    }
}
