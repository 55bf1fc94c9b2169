import java.io.IOException;
import java.lang.reflect.Method;
import java.lang.reflect.Modifier;
import java.nio.file.Files;
import java.nio.file.Path;
import java.util.regex.Matcher;
import java.util.regex.Pattern;

/** README.md: the object in it answers as the page says, and the page leaves no call out. */
public final class ReadmeTest {
    private static final Check CHECK = new Check("ReadmeTest");
    private static final String NEW = "AsLastTime x = new AsLastTime();";
    private static final Pattern CALL = Pattern.compile("x\\.(\\w+)\\(([-\\d, ]*)\\);\\s+// (-?\\d+): .*");
    private static final Pattern FEED =
            Pattern.compile("for \\(char c : \"([^\"]*)\"\\.toCharArray\\(\\)\\) x\\.feed\\(c\\);");

    public static void main(String[] args) throws IOException {
        String page = Files.readString(Path.of("README.md"));
        String example = example(page);
        exampleAnswersAsWritten(example);
        pageNamesAllCalls(example, page.substring(page.indexOf("### The calls")));
        CHECK.end();
    }

    private static String example(String page) {
        int from = page.indexOf("```java\n") + "```java\n".length();
        return page.substring(from, page.indexOf("```", from));
    }

    private static void exampleAnswersAsWritten(String example) {
        CHECK.holds("the example begins with a new object", example.startsWith(NEW + "\n"));
        AsLastTime x = new AsLastTime();
        for (String line : example.substring(NEW.length()).split("\n")) {
            if (line.isEmpty() || line.startsWith("//")) {
                continue;
            }
            Matcher feed = FEED.matcher(line);
            Matcher call = CALL.matcher(line);
            if (feed.matches()) {
                for (char c : feed.group(1).toCharArray()) {
                    x.feed(c);
                }
            } else if (call.matches()) {
                long got = Calls.answer(x, call.group(1), numbers(call.group(2)));
                CHECK.due(line, got, Long.parseLong(call.group(3)));
            } else {
                CHECK.holds("a call with its answer behind it: " + line, false);
            }
        }
    }

    private static int[] numbers(String list) {
        if (list.isEmpty()) {
            return new int[0];
        }
        String[] parts = list.split(", *");
        int[] numbers = new int[parts.length];
        for (int i = 0; i < parts.length; i++) {
            numbers[i] = Integer.parseInt(parts[i]);
        }
        return numbers;
    }

    private static void pageNamesAllCalls(String example, String table) {
        for (Method m : AsLastTime.class.getDeclaredMethods()) {
            if (Modifier.isPublic(m.getModifiers())) {
                CHECK.holds("the table has " + m.getName(), table.contains("`" + m.getName() + "("));
                CHECK.holds("the example has " + m.getName(), example.contains("x." + m.getName() + "("));
            }
        }
    }
}
