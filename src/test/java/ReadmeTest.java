import java.io.IOException;
import java.lang.reflect.Method;
import java.nio.file.Files;
import java.nio.file.Path;
import java.util.Set;
import java.util.TreeSet;
import java.util.regex.Matcher;
import java.util.regex.Pattern;

/** README.md: its example answers as it says, its text is a slide, and it names every call. */
public final class ReadmeTest {
    private static final Check CHECK = new Check();
    private static final Pattern CALL = Pattern.compile("x\\.(\\w+)\\(([-\\d, ]*)\\);\\s*// (-?\\d+):.*");
    private static final Pattern TEXT = Pattern.compile("`(1[^`]*;[^`]*)`");

    private static Method named(String name) {
        for (Method m : HelterSlide.class.getMethods()) {
            if (m.getDeclaringClass() == HelterSlide.class && m.getName().equals(name)) {
                return m;
            }
        }
        throw new IllegalArgumentException("no call " + name);
    }

    private static long answer(HelterSlide x, String name, String list) {
        Method m = named(name);
        String[] told = list.isEmpty() ? new String[0] : list.split(", *");
        Object[] arguments = new Object[told.length];
        for (int i = 0; i < told.length; i++) {
            boolean isLong = m.getParameterTypes()[i] == long.class;
            arguments[i] = isLong ? (Object) Long.valueOf(told[i]) : (Object) Integer.valueOf(told[i]);
        }
        try {
            return ((Number) m.invoke(x, arguments)).longValue();
        } catch (ReflectiveOperationException e) {
            throw new IllegalStateException(name, e);
        }
    }

    private static void example(String page) {
        HelterSlide x = new HelterSlide();
        int lines = 0;
        for (String line : page.split("\n")) {
            Matcher m = CALL.matcher(line);
            if (m.matches()) {
                lines++;
                CHECK.due(line, answer(x, m.group(1), m.group(2)), Long.parseLong(m.group(3)));
            }
        }
        CHECK.due("the lines of the example", lines, page.lines().filter(l -> l.startsWith("x.")).count());
    }

    private static void text(String page) {
        Matcher m = TEXT.matcher(page);
        CHECK.due("there is a text", m.find() ? 1 : 0, 1);
        CHECK.due(m.group(1), Check.told(new HelterSlide(), m.group(1)), m.group(1).split(",").length);
    }

    private static void calls(String page) {
        Set<String> missing = new TreeSet<>();
        for (Method m : HelterSlide.class.getMethods()) {
            boolean named = page.contains("`" + m.getName() + "`");
            if (m.getDeclaringClass() == HelterSlide.class && !named) {
                missing.add(m.getName());
            }
        }
        CHECK.due("calls not named: " + missing, missing.size(), 0);
    }

    public static void main(String[] args) throws IOException {
        String page = Files.readString(Path.of("README.md"));
        example(page);
        text(page);
        calls(page);
        CHECK.end("README.md");
    }
}
