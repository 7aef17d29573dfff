import java.io.IOException;
import java.lang.reflect.InvocationTargetException;
import java.lang.reflect.Method;
import java.lang.reflect.Modifier;
import java.nio.charset.StandardCharsets;
import java.nio.file.Files;
import java.nio.file.Path;
import java.util.Map;
import java.util.TreeMap;
import java.util.regex.Matcher;
import java.util.regex.Pattern;

/** README.md: what stands behind the calls of its examples is what they answer, and its table has every call. */
public final class ReadmeTest {
    private static final Map<String, Method> FACE = new TreeMap<>();

    public static void main(String[] args) throws IOException {
        for (Method method : ForkWatch.class.getDeclaredMethods()) {
            if (Modifier.isPublic(method.getModifiers())) {
                FACE.put(method.getName(), method);
            }
        }
        String page = Files.readString(Path.of(args.length > 2 ? args[2] : "README.md"), StandardCharsets.UTF_8);
        examples(page);
        table(page);
        Checks.finish();
    }

    /** All examples are on one object, as the second goes on where the first ends. */
    private static void examples(String page) {
        ForkWatch watch = new ForkWatch();
        Pattern form = Pattern.compile("watch\\.(\\w+)\\((.*)\\); +// (throws \\w+|-?\\w+)(: .*)?");
        Matcher blocks = Pattern.compile("(?s)```java\n(.*?)```").matcher(page);
        int calls = 0;
        while (blocks.find()) {
            for (String line : blocks.group(1).split("\n")) {
                Matcher call = form.matcher(line);
                if (call.matches()) {
                    calls++;
                    Checks.due(line, answer(watch, call.group(1), call.group(2)), call.group(3));
                    texts(line, call.group(2));
                } else {
                    Checks.due("not a call with its answer", line, "ForkWatch watch = new ForkWatch();");
                }
            }
        }
        Checks.due("there are examples", calls > 0, true);
    }

    private static String answer(ForkWatch watch, String name, String arguments) {
        String[] parts = arguments.isEmpty() ? new String[0] : arguments.split(", ");
        Object[] numbers = new Object[parts.length];
        for (int at = 0; at < parts.length; at++) {
            numbers[at] = Long.decode(parts[at]).intValue();
        }
        if (!FACE.containsKey(name) || FACE.get(name).getParameterCount() != numbers.length) {
            return "no such call";
        }
        try {
            return String.valueOf(FACE.get(name).invoke(watch, numbers));
        } catch (InvocationTargetException e) {
            return "throws " + e.getCause().getClass().getSimpleName();
        } catch (IllegalAccessException e) {
            return "not public";
        }
    }

    /** The text quoted behind a call of feed is what its bytes spell. */
    private static void texts(String line, String arguments) {
        Matcher quoted = Pattern.compile("// \\d+: \"(.*)\"").matcher(line);
        if (!quoted.find()) {
            return;
        }
        StringBuilder text = new StringBuilder();
        for (String part : arguments.split(", ")) {
            int four = Long.decode(part).intValue();
            for (int shift = 24; shift >= 0; shift -= 8) {
                text.append((char) (four >>> shift & 255));
            }
        }
        Checks.due(line, text.toString().replace("\0", ""), quoted.group(1));
    }

    private static void table(String page) {
        Map<String, Method> missing = new TreeMap<>(FACE);
        Matcher rows = Pattern.compile("(?m)^\\| `(\\w+)\\((.*?)\\)` \\|.*\\|(.*)\\|$").matcher(page);
        while (rows.find()) {
            Method method = missing.remove(rows.group(1));
            Checks.due("one row of the table for " + rows.group(1), method != null, true);
            if (method != null) {
                int parameters = rows.group(2).isEmpty() ? 0 : rows.group(2).split(", ").length;
                Checks.due("parameters of " + rows.group(1), parameters, method.getParameterCount());
                Checks.due("exceptions of " + rows.group(1), rows.group(3).trim(), letters(method));
            }
        }
        Checks.due("not in the table: " + missing.keySet(), missing.size(), 0);
    }

    /** The letters of the table, in the order in which the face names the exceptions. */
    private static String letters(Method method) {
        StringBuilder text = new StringBuilder();
        for (Class<?> thrown : method.getExceptionTypes()) {
            text.append(thrown == Checks.NO_SUCH ? "N " : thrown == Checks.ARGUMENT ? "A " : "");
            text.append(thrown == Checks.STATE ? "S " : "");
        }
        return text.toString().trim();
    }
}
