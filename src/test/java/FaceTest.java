import java.io.IOException;
import java.lang.reflect.Executable;
import java.lang.reflect.Field;
import java.lang.reflect.Method;
import java.lang.reflect.Modifier;
import java.nio.charset.StandardCharsets;
import java.nio.file.Files;
import java.nio.file.Path;
import java.util.Arrays;
import java.util.Set;
import java.util.TreeSet;
import java.util.regex.Matcher;
import java.util.regex.Pattern;

/** The face of the class, and what rules of LANGUAGE.md can be seen without reading: rules 1, 4, 5, 6 and 11. */
public final class FaceTest {
    private static final String N = " throws NoSuchElementException";
    private static final String A = " throws IllegalArgumentException";
    private static final String S = " throws IllegalStateException";
    private static final String NA = " throws NoSuchElementException IllegalArgumentException";
    private static final String NS = " throws NoSuchElementException IllegalStateException";
    private static final String AS = " throws IllegalArgumentException IllegalStateException";
    private static final String NAS = " throws NoSuchElementException IllegalArgumentException IllegalStateException";
    private static final String[] FACE = {"int feed 5" + S, "int load 1" + AS, "int run 1" + AS, "int errorCode 0",
        "int errorPosition 0", "int refused 0", "int write 3" + NAS, "int read 2" + NS, "int exchange 2" + N,
        "int post 1" + N, "boolean calm 1" + N, "int adopt 1" + N, "int fork 1" + AS, "int move 2" + N,
        "int rewind 2" + NA, "int corrupt 3" + NAS, "int heal 2" + NS, "int clients 0", "int blocks 0",
        "int branches 0", "int length 1" + N, "int entry 3" + NA, "int value 2" + N, "int branchOf 1" + N,
        "int commonLength 2" + N, "int conflicts 2" + N, "int receipt 2" + NA, "boolean isSigned 4",
        "int hashAt 2" + N, "int vector 2" + N, "int order 2" + N, "boolean isSuspicious 1" + N,
        "int wouldFind 1" + N, "int forkedPairs 0", "int seenBy 1" + N, "int blames 0", "int blame 2" + NA,
        "int posts 0", "int boardPost 2" + NA, "int checkPost 2" + N};

    public static void main(String[] args) throws IOException {
        Class<?> type = ForkWatch.class;
        int flags = type.getModifiers();
        Checks.due("public and final", Modifier.isPublic(flags) && Modifier.isFinal(flags), true);
        Checks.due("constructors", type.getDeclaredConstructors().length, 1);
        Checks.due("public constructor", isPlainPublic(type.getDeclaredConstructors()[0]), true);
        Set<String> face = new TreeSet<>(Arrays.asList(FACE));
        Set<String> names = new TreeSet<>();
        Arrays.stream(FACE).forEach(line -> names.add(line.split(" ")[1]));
        for (Method method : type.getDeclaredMethods()) {
            if (Modifier.isPrivate(method.getModifiers())) {
                Checks.due("a public name of " + method, names.contains(method.getName()), false);
            } else {
                Checks.due("in the face: " + describe(method), face.remove(describe(method)), true);
            }
        }
        Checks.due("not there: " + face, face.size(), 0);
        fields(type);
        int classes = type.getDeclaredClasses().length;
        Checks.due("at most twelve classes", classes <= 12, true);
        for (Class<?> inner : type.getDeclaredClasses()) {
            Checks.due("static class " + inner, Modifier.isStatic(inner.getModifiers()), true);
            fields(inner);
            for (Method method : inner.getDeclaredMethods()) {
                Checks.due("parameters of " + method, method.getParameterCount() <= 7, true);
            }
        }
        source(args.length > 0 ? args[0] : "src/main/java/ForkWatch.java");
        Checks.finish();
    }

    private static boolean isPlainPublic(Executable executable) {
        return Modifier.isPublic(executable.getModifiers()) && executable.getParameterCount() == 0;
    }

    private static String describe(Method method) {
        StringBuilder text = new StringBuilder();
        text.append(method.getReturnType()).append(" ").append(method.getName()).append(" ");
        text.append(method.getParameterCount());
        for (Class<?> parameter : method.getParameterTypes()) {
            text.append(parameter == int.class ? "" : " not an int");
        }
        String sign = " throws ";
        for (Class<?> thrown : method.getExceptionTypes()) {
            text.append(sign).append(thrown.getSimpleName());
            sign = " ";
        }
        return text + (Modifier.isPublic(method.getModifiers()) ? "" : " not public");
    }

    private static void fields(Class<?> type) {
        int own = 0;
        for (Field field : type.getDeclaredFields()) {
            int flags = field.getModifiers();
            if (Modifier.isStatic(flags)) {
                Checks.due("final " + field, Modifier.isFinal(flags), true);
            } else {
                own++;
            }
            if (type == ForkWatch.class) {
                Checks.due("private " + field, Modifier.isPrivate(flags), true);
            }
        }
        Checks.due("at most twenty fields of " + type, own <= 20, true);
    }

    private static void source(String path) throws IOException {
        String text = Files.readString(Path.of(path), StandardCharsets.ISO_8859_1);
        String code = text.replaceAll("(?s)/\\*.*?\\*/", "").replaceAll("//[^\n]*", "");
        String[] forbidden = {"\\bpackage\\b", "->", "::", "\\bcatch\\b", "\\bfinally\\b", "\\bsynchronized\\b",
            "\\bassert\\b", "Exact\\b", "\\bdouble\\b", "\\bfloat\\b", "\\bSystem\\.(?!arraycopy)", "\\bstatic \\{",
            "[^\\x00-\\x7f]"};
        for (String pattern : forbidden) {
            Matcher matcher = Pattern.compile(pattern).matcher(code);
            Checks.due("in the source: " + pattern, matcher.find(), false);
        }
        Matcher imports = Pattern.compile("import ([^;]*);").matcher(code);
        while (imports.find()) {
            String name = imports.group(1);
            Checks.due(name, name.matches("java\\.util\\.(Arrays|NoSuchElementException)"), true);
        }
        Checks.due("throws of other things", Pattern.compile("\\bthrow (?!new (NoSuchElement|IllegalArgument|"
            + "IllegalState)Exception\\(\"[^\"]*\"\\);)").matcher(code).find(), false);
        String method = "(?m)^( +)[^ \\n][^;\\n]*\\) ?(throws [^{]*)?\\{\\n(?s:.*?)^\\1\\}";
        Matcher methods = Pattern.compile(method).matcher(text);
        while (methods.find()) {
            String[] lines = methods.group().split("\n");
            Checks.due("short: " + lines[0], lines.length <= 60, true);
        }
    }
}
