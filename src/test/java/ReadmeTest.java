import java.lang.reflect.Method;
import java.lang.reflect.Modifier;
import java.nio.file.Files;
import java.nio.file.Path;
import java.util.regex.Matcher;
import java.util.regex.Pattern;

/** README.md: its examples answer what it says they do, and it names every call. */
public final class ReadmeTest {
    private static final Pattern BLOCK = Pattern.compile("(?s)```java\n(.*?)```");
    /** A call of an example and, behind it, the answer that the page tells. */
    private static final Pattern CALL = Pattern.compile("(?:inn\\.)?(\\w+)\\((.*)\\); +// (-?\\d+):.*");

    public static void main(String[] args) throws Exception {
        // The first argument is the path of the class, which stands in src/main/java.
        Path home = args.length > 0 ? Path.of(args[0]).resolve("../../../..").normalize() : Path.of("");
        String page = Files.readString(home.resolve("README.md"));
        for (Method m : KeyInn.class.getDeclaredMethods()) {
            if (Modifier.isPublic(m.getModifiers())) {
                Due.is("README.md names " + m.getName(), page.contains('`' + m.getName() + '`') ? 1 : 0, 1);
            }
        }
        int calls = 0;
        Matcher blocks = BLOCK.matcher(page);
        while (blocks.find()) {
            calls += example(blocks.group(1));
        }
        Due.is("calls in README.md", calls, 18);
        Due.finish();
    }

    private static int example(String block) throws Exception {
        KeyInn inn = new KeyInn();
        int calls = 0;
        // A text may be joined of parts on several lines.
        for (String line : block.replaceAll("\"\n\\s*\\+ \"", "").split("\n")) {
            Matcher call = CALL.matcher(line);
            if (call.matches()) {
                calls++;
                Due.is(line, answer(inn, call.group(1), call.group(2)), Integer.parseInt(call.group(3)));
            }
        }
        return calls;
    }

    private static int answer(KeyInn inn, String name, String arguments) throws Exception {
        if (name.equals("tell")) {
            return Due.tell(inn, arguments.substring(arguments.indexOf('"') + 1, arguments.lastIndexOf('"')));
        }
        String[] parts = arguments.isEmpty() ? new String[0] : arguments.split(", ");
        for (Method m : KeyInn.class.getDeclaredMethods()) {
            if (m.getName().equals(name) && m.getParameterCount() == parts.length) {
                Object[] values = new Object[parts.length];
                for (int i = 0; i < parts.length; i++) {
                    values[i] = value(parts[i], m.getParameterTypes()[i]);
                }
                return (Integer) m.invoke(inn, values);
            }
        }
        throw new IllegalArgumentException("README.md calls " + name + ", which there is not");
    }

    private static Object value(String part, Class<?> type) {
        if (type == boolean.class) {
            return Boolean.valueOf(part);
        }
        long number = Long.decode(part);
        return type == int.class ? (Object) (int) number : (Object) number;
    }
}
