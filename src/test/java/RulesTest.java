import java.io.IOException;
import java.lang.reflect.Executable;
import java.lang.reflect.Field;
import java.lang.reflect.Modifier;
import java.nio.charset.StandardCharsets;
import java.nio.file.Files;
import java.nio.file.Path;
import java.util.ArrayList;
import java.util.List;
import java.util.regex.Matcher;
import java.util.regex.Pattern;

/** The rules of ../shared/LANGUAGE.md, as far as the class's text and its members show them. */
public final class RulesTest {
    private static final Path SOURCE = Path.of("src/main/java/ChargebackProcessor.java");
    private static final int MOST_CLASSES = 12;
    private static final int MOST_FIELDS = 20;
    private static final int MOST_PARAMETERS = 7;
    private static final int MOST_LINES = 60;
    private static final Pattern METHOD = Pattern.compile("(public|private|static|final|void|int|long|boolean|[A-Z]\\w*)\\b[^=;]*\\(.*\\{");

    private RulesTest() {
    }

    public static void main(String[] args) throws IOException {
        String source = Files.readString(SOURCE, StandardCharsets.ISO_8859_1);
        // A literal's own signs must not be taken for code.
        String code = source.replaceAll("(?s)/\\*.*?\\*/|//[^\\n]*", "").replaceAll("\"[^\"\\n]*\"", "\"\"").replaceAll("'\\\\?.'", "'x'");
        Due.is("signs outside 1 to 127", source.chars().filter(sign -> sign < 1 || sign > 127).count(), 0);
        imports(code);
        forbidden(code);
        exceptions(code);
        methodLengths(code);
        members();
        Due.end();
    }

    private static void imports(String code) {
        Due.sentence("4. The library: only what stands here.");
        Matcher matcher = Pattern.compile("\\b(import|java)\\b[ .]([\\w. ]*)").matcher(code.replaceAll("import java\\.util\\.(Arrays|ArrayList|List|Iterator);", ""));
        while (matcher.find()) {
            Due.same("the class names", matcher.group(), "nothing of the kind");
        }
        matcher = Pattern.compile("\\b(System|Math|Integer|Long|Arrays)\\.(\\w+)").matcher(code);
        List<String> allowed = List.of("System.arraycopy", "Math.max", "Math.min", "Math.abs", "Math.floorDiv", "Math.floorMod",
                "Integer.bitCount", "Integer.compare", "Integer.max", "Integer.min", "Arrays.fill", "Arrays.copyOf", "Arrays.copyOfRange");
        while (matcher.find()) {
            Due.is("the rules allow " + matcher.group(), allowed.contains(matcher.group()), true);
        }
    }

    private static void forbidden(String code) {
        absent(code, "no package", "\\bpackage\\b");
        absent(code, "2. no lambda, no method reference", "->|::");
        absent(code, "5. no static initialiser block", "\\bstatic\\s*\\{");
        absent(code, "6. No finally, no synchronized, assert", "\\b(finally|synchronized|assert)\\b");
        absent(code, "6. a call is not answered by catching", "\\b(try|catch)\\b");
        absent(code, "9. Every loop has an end", "while \\(true\\)|for \\([^;]*;\\s*;");
        absent(code, "10. joining texts by StringBuilder (not by +)", "\"\"\\s*\\+|\\+\\s*\"\"");
        absent(code, "13. No clock, no randomness, no thread", "\\b(Random|Thread|Date|Instant|nanoTime|currentTimeMillis|identityHashCode)\\b");
        absent(code, "6. No equals, hashCode or toString of your own objects", "\\b(hashCode|toString)\\b");
    }

    private static void absent(String code, String rule, String pattern) {
        Due.sentence(rule);
        Matcher matcher = Pattern.compile(pattern).matcher(code);
        while (matcher.find()) {
            Due.same("in the text stands", matcher.group(), "nothing of the kind");
        }
    }

    private static void exceptions(String code) {
        Due.sentence("6. Exceptions: throw new E() or throw new E(\"a written text\")");
        Matcher matcher = Pattern.compile("\\bthrow\\b[^;]*;").matcher(code);
        while (matcher.find()) {
            boolean fits = matcher.group().matches("throw new (IllegalState|IllegalArgument|IndexOutOfBounds)Exception\\((\"\")?\\);");
            Due.is("as the rules want it is: " + matcher.group(), fits, true);
        }
    }

    private static void methodLengths(String code) {
        Due.sentence("11. Methods stay short (some sixty lines)");
        String[] lines = code.split("\n");
        int methods = 0;
        for (int i = 0; i < lines.length; i++) {
            if (METHOD.matcher(lines[i].trim()).matches()) {
                methods++;
                int end = endOfBlock(lines, i);
                Due.is("short enough is: " + lines[i].trim(), end - i < MOST_LINES, true);
            }
        }
        // If fewer were found, the pattern no longer fits the way in which methods are written.
        Due.is("the methods that were looked at are the class's", methods, countOfMethods());
    }

    private static int endOfBlock(String[] lines, int start) {
        int open = 0;
        for (int i = start; i < lines.length; i++) {
            open += lines[i].chars().map(sign -> sign == '{' ? 1 : sign == '}' ? -1 : 0).sum();
            if (open == 0) {
                return i;
            }
        }
        return lines.length;
    }

    private static int countOfMethods() {
        int count = 0;
        for (Class<?> type : classes()) {
            count += executables(type).size();
        }
        return count;
    }

    private static void members() {
        Due.sentence("11. the file has at most some twelve classes, and a class some twenty fields beside its constants");
        Due.is("there are few enough classes", classes().size() <= MOST_CLASSES, true);
        for (Class<?> type : classes()) {
            int fields = 0;
            for (Field field : type.getDeclaredFields()) {
                boolean isStatic = Modifier.isStatic(field.getModifiers());
                fields += isStatic ? 0 : 1;
                Due.is(field + " is a constant or no static one", !isStatic || isConstant(field), true);
            }
            Due.is(type + " has few enough fields", fields <= MOST_FIELDS, true);
            for (Executable method : executables(type)) {
                Due.is(method + " has few enough parameters", method.getParameterCount() <= MOST_PARAMETERS, true);
            }
        }
    }

    private static boolean isConstant(Field field) {
        List<Class<?>> types = List.of(int.class, long.class, boolean.class, char.class, String.class);
        return Modifier.isFinal(field.getModifiers()) && types.contains(field.getType());
    }

    private static List<Class<?>> classes() {
        List<Class<?>> all = new ArrayList<>(List.of(ChargebackProcessor.class.getDeclaredClasses()));
        all.add(ChargebackProcessor.class);
        return all;
    }

    private static List<Executable> executables(Class<?> type) {
        List<Executable> all = new ArrayList<>(List.of(type.getDeclaredConstructors()));
        all.addAll(List.of(type.getDeclaredMethods()));
        all.removeIf(Executable::isSynthetic);
        return all;
    }
}
