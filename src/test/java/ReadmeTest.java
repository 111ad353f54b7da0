import java.io.IOException;
import java.lang.reflect.Method;
import java.lang.reflect.Modifier;
import java.nio.file.Files;
import java.nio.file.Path;
import java.util.Set;
import java.util.TreeSet;
import java.util.regex.Matcher;
import java.util.regex.Pattern;

/** The example of README.md, line by line: each call answers the number that stands behind it, and none is left out. */
public final class ReadmeTest extends Trial {
    private static final Pattern EXAMPLE = Pattern.compile("(?s)```java\n(.*?)```");
    private static final Pattern TEXT = Pattern.compile("for \\(char c : \"([^\"]*)\"\\.toCharArray\\(\\)\\) \\{");
    private static final Pattern CALL = Pattern.compile("x\\.(\\w+)\\(([^()]*)\\);\\s*// (-?\\d+)\\b.*");
    private static final Set<String> WITHOUT_ANSWER =
            Set.of("", "AlikeHands x = new AlikeHands();", "x.feed(c, 1); // the tape takes 1 to 8 bytes a call", "}");

    private static int answer(AlikeHands x, String name, String numbers) throws ReflectiveOperationException {
        String[] told = numbers.isEmpty() ? new String[0] : numbers.split(", ");
        for (Method method : AlikeHands.class.getMethods()) {
            if (method.getName().equals(name) && method.getParameterCount() == told.length) {
                Object[] given = new Object[told.length];
                for (int i = 0; i < told.length; i++) {
                    given[i] = Integer.valueOf(told[i]);
                }
                return (Integer) method.invoke(x, given);
            }
        }
        throw new NoSuchMethodException(name);
    }

    private static void dueExample(String example) throws ReflectiveOperationException {
        AlikeHands x = new AlikeHands();
        Set<String> called = new TreeSet<>(Set.of("feed"));
        for (String line : example.split("\n")) {
            Matcher text = TEXT.matcher(line);
            Matcher call = CALL.matcher(line);
            if (text.matches()) {
                for (char c : text.group(1).toCharArray()) {
                    x.feed(c, 1);
                }
            } else if (call.matches()) {
                due(line, answer(x, call.group(1), call.group(2)), Integer.parseInt(call.group(3)));
                called.add(call.group(1));
            } else {
                due("a line without an answer", WITHOUT_ANSWER.contains(line.strip()) ? "" : line, "");
            }
        }
        for (Method method : AlikeHands.class.getDeclaredMethods()) {
            if (Modifier.isPublic(method.getModifiers())) {
                due(method.getName() + " in the example", called.contains(method.getName()) ? 1 : 0, 1);
            }
        }
    }

    public static void main(String[] args) throws IOException, ReflectiveOperationException {
        Matcher found = EXAMPLE.matcher(Files.readString(Path.of("README.md")));
        due("an example", found.find() ? 1 : 0, 1);
        dueExample(found.group(1));
        end();
    }
}
