import java.io.IOException;
import java.lang.reflect.InvocationTargetException;
import java.lang.reflect.Method;
import java.nio.file.Files;
import java.nio.file.Path;
import java.util.regex.Matcher;
import java.util.regex.Pattern;

/** What README.md shows as an example: each call answers what is told behind it. */
public final class ReadmeTest {
    private static final Pattern EXAMPLE = Pattern.compile("```java\n(.*?)```", Pattern.DOTALL);
    private static final String FIRST_LINE = "BellfounderTower tower = new BellfounderTower();";
    /** A call, and as a comment what it answers, or "throws" and an exception; behind a colon, why. */
    private static final Pattern CALL =
            Pattern.compile("tower\\.(\\w+)\\(([-0-9, ]*)\\); *// (throws \\w+|[^: ]+)(:.*)?");

    public static void main(String[] args) throws IOException {
        Matcher example = EXAMPLE.matcher(Files.readString(Path.of("README.md")));
        Check.is("README.md has an example", example.find(), true);
        BellfounderTower tower = new BellfounderTower();
        for (String line : example.group(1).split("\n")) {
            Matcher call = CALL.matcher(line);
            if (call.matches()) {
                String due = call.group(3).replace("throws ", "throws.");
                Check.is(line, Check.answerOf(() -> answer(tower, call.group(1), call.group(2))), due);
            } else {
                Check.is(line + " makes the tower, or tells an answer", line.equals(FIRST_LINE), true);
            }
        }
        Check.end("ReadmeTest");
    }

    private static Object answer(BellfounderTower tower, String name, String told) {
        String[] words = told.isEmpty() ? new String[0] : told.split(", ");
        Class<?>[] types = new Class<?>[words.length];
        Object[] arguments = new Object[words.length];
        for (int k = 0; k < words.length; k++) {
            types[k] = int.class;
            arguments[k] = Integer.valueOf(words[k]);
        }
        try {
            Method method = BellfounderTower.class.getMethod(name, types);
            return method.invoke(tower, arguments);
        } catch (InvocationTargetException e) {
            throw (RuntimeException) e.getCause();
        } catch (ReflectiveOperationException e) {
            return "no such call";
        }
    }
}
