import com.sun.management.ThreadMXBean;
import java.io.IOException;
import java.lang.management.ManagementFactory;
import java.lang.reflect.Field;
import java.lang.reflect.Method;
import java.lang.reflect.Modifier;
import java.nio.file.Files;
import java.nio.file.Path;
import java.util.ArrayList;
import java.util.Arrays;
import java.util.List;
import java.util.regex.Matcher;
import java.util.regex.Pattern;

/** What a look at the source, at the compiled class and at a run can tell of ../shared/LANGUAGE.md. */
public final class LanguageTest {
    private static final Path SOURCE = Path.of("src", "main", "java", "BellfounderTower.java");
    private static final Pattern MESSAGE = Pattern.compile("\"[^\"]*\"");
    private static final Pattern COMMENT = Pattern.compile("/\\*.*?\\*/|//[^\n]*", Pattern.DOTALL);
    private static final String[] FORBIDDEN = {
        "\\bpackage\\b", "->", "::", "\\bfinally\\b", "\\bsynchronized\\b", "\\bassert\\b", "Exact\\(",
        "\\bstatic \\{", "\\bhashCode\\b", "\\bgetMessage\\b", "\\bThread\\b", "\\+ \"", "\" \\+",
    };
    private static final String LIBRARY =
            "Arrays.(fill|copyOf|copyOfRange)|System.arraycopy|List.of|(Math|Integer|Long).*";
    private static final String THROWN = "new (IllegalState|IllegalArgument|IndexOutOfBounds|Arithmetic"
            + "|UnsupportedOperation|NoSuchElement|Runtime)Exception\\((\"\")?\\)";

    public static void main(String[] args) throws IOException {
        String source = Files.readString(SOURCE);
        String code = MESSAGE.matcher(COMMENT.matcher(source).replaceAll("")).replaceAll("\"\"");
        Check.sentence("1, 2, 4 to 6, 10, 13: what no line may hold", () -> forbidden(code));
        Check.sentence("4: no library but what stands here", () -> library(code));
        Check.sentence("5: Static fields are final", LanguageTest::staticFields);
        Check.sentence("6: throw new E(), E one of ..", () -> thrown(code));
        Check.sentence("11: at most seven parameters, twelve classes, twenty fields", LanguageTest::sizes);
        Check.sentence("11: Methods stay short (some sixty lines)", () -> lengths(source));
        Check.sentence("12: What a run makes is counted", LanguageTest::nothingIsMade);
        Check.end("LanguageTest");
    }

    private static List<String> found(String pattern, String code) {
        List<String> found = new ArrayList<>();
        Matcher matcher = Pattern.compile(pattern).matcher(code);
        while (matcher.find()) {
            found.add(matcher.group(matcher.groupCount()));
        }
        return found;
    }

    private static void forbidden(String code) {
        for (String pattern : FORBIDDEN) {
            Check.is("lines with " + pattern, found(pattern, code).size(), 0);
        }
    }

    private static void library(String code) {
        for (String name : found("import ([^;]*);", code)) {
            boolean isAllowed = name.matches("java.util.(ArrayList|List|Arrays|Iterator|NoSuchElementException)");
            Check.is(name + " may be imported", isAllowed, true);
        }
        for (String used : found("(?<!\\.)\\b((?:Arrays|System|List|Math|Integer|Long)\\.\\w+)", code)) {
            Check.is(used + " may be used", used.matches(LIBRARY), true);
        }
    }

    private static List<Class<?>> classes() {
        List<Class<?>> classes = new ArrayList<>(Arrays.asList(BellfounderTower.class.getDeclaredClasses()));
        classes.add(BellfounderTower.class);
        return classes;
    }

    private static void staticFields() {
        for (Class<?> type : classes()) {
            for (Field field : type.getDeclaredFields()) {
                boolean mayStand = !Modifier.isStatic(field.getModifiers()) || Modifier.isFinal(field.getModifiers());
                Check.is(field.getName() + " is final, if static", mayStand, true);
            }
        }
    }

    private static void thrown(String code) {
        for (String what : found("\\bthrow ([^;]*);", code)) {
            Check.is(what + " may be thrown", what.matches(THROWN), true);
        }
    }

    private static void sizes() {
        Check.is("at most twelve classes", classes().size() <= 12, true);
        for (Class<?> type : classes()) {
            int fields = 0;
            for (Field field : type.getDeclaredFields()) {
                fields += Modifier.isStatic(field.getModifiers()) ? 0 : 1;
            }
            Check.is(type.getName() + " has at most twenty fields", fields <= 20, true);
            for (Method method : type.getDeclaredMethods()) {
                Check.is(method.getName() + " takes at most seven", method.getParameterCount() <= 7, true);
            }
        }
    }

    /** A method begins with a line that ends with ") {" or "throws .. {", and ends with its brace, as far in. */
    private static void lengths(String source) {
        Pattern begin = Pattern.compile("( {4}| {8})[a-zA-Z].*\\).* \\{");
        String[] lines = source.split("\n");
        for (int from = 0; from < lines.length; from++) {
            Matcher matcher = begin.matcher(lines[from]);
            if (matcher.matches()) {
                int to = from;
                while (!lines[to].equals(matcher.group(1) + "}")) {
                    to++;
                }
                Check.is("sixty lines are enough for" + lines[from], to - from < 60, true);
            }
        }
    }

    /** The dearest calls, as often as there may be: no call makes an object or an array. */
    private static void nothingIsMade() {
        ThreadMXBean threads = (ThreadMXBean) ManagementFactory.getThreadMXBean();
        long id = Thread.currentThread().getId();
        dearestCalls(Towers.huntOnSeven(new int[24]), 20);
        BellfounderTower tower = Towers.huntOnSeven(new int[24]);
        long before = threads.getThreadAllocatedBytes(id);
        dearestCalls(tower, 40);
        long made = threads.getThreadAllocatedBytes(id) - before;
        Check.is("bytes made by 440 calls, " + made + ", are few", made < 10_000, true);
    }

    private static void dearestCalls(BellfounderTower tower, int times) {
        for (int k = 0; k < times; k++) {
            tower.digest();
            tower.best(5);
            tower.good(5);
            tower.bestCall(5, 0);
            tower.at(1, 1);
            tower.uncall();
            tower.call(1);
            tower.common(0, 23);
            tower.endWith(0, 2);
            tower.clashes(2);
            tower.meanPlace();
        }
    }
}
