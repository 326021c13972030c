import java.lang.reflect.Field;
import java.lang.reflect.Modifier;
import java.nio.file.Files;
import java.nio.file.Path;
import java.util.Set;
import java.util.regex.Matcher;
import java.util.regex.Pattern;

/** Those rules of LANGUAGE.md that can be seen in the program's text or its fields; its path is the first argument. */
public final class LanguageTest {
    private static final String[] FORBIDDEN_WORDS = {
        "throw", "throws", "try", "catch", "synchronized", "assert", "package", "protected", "native", "volatile",
        "hashCode", "Object", "Random", "Thread", "Exception", "currentTimeMillis", "nanoTime",
    };
    private static final Set<String> IMPORTS = Set.of(
        "java.util.ArrayList", "java.util.List", "java.util.Arrays", "java.util.Iterator");
    private static final Set<String> FUNCTIONS = Set.of(
        "System.arraycopy", "Arrays.copyOf", "Arrays.copyOfRange", "Arrays.fill", "List.of");
    private static final Set<Class<?>> CONSTANTS = Set.of(
        int.class, long.class, boolean.class, char.class, String.class, int[].class, long[].class, char[].class, byte[].class);

    public static void main(String[] args) throws Exception {
        String code = Files.readString(Path.of(args.length > 0 ? args[0] : "src/main/java/SocietyBook.java"));
        code = code.replaceAll("(?s)/\\*.*?\\*/", " ").replaceAll("//[^\\n]*", " ");
        for (String word : FORBIDDEN_WORDS) {
            Due.isTrue("rules 1, 6, 13: no " + word, matches(code, "\\b" + word + "\\b") == 0);
        }
        Due.isTrue("rule 2: no lambda", matches(code, "->") == matches(code, "(case [^;:]*|default )->"));
        Due.isTrue("rule 2: no method reference", !code.contains("::"));
        Due.isTrue("rule 6: no toString of its own", matches(code, "String toString\\(") == 0);
        Due.isTrue("rule 11: some twelve classes at most", matches(code, "\\b(class|record|enum|interface)\\s+\\w+") <= 13);
        onlyListedLibrary(code);
        atMostSevenParameters(code);
        shortMethods(code);
        staticFields(SocietyBook.class);
        for (Class<?> inside : SocietyBook.class.getDeclaredClasses()) {
            staticFields(inside);
        }
        Due.end("LanguageTest");
    }

    private static void onlyListedLibrary(String code) {
        Matcher brought = Pattern.compile("\\bimport\\s+([^;]*);").matcher(code);
        while (brought.find()) {
            Due.isTrue("rule 4: " + brought.group(1) + " is listed", IMPORTS.contains(brought.group(1).trim()));
        }
        Matcher call = Pattern.compile("\\b(Math|Integer|Long|System|Arrays|List)\\.(\\w+)").matcher(code);
        while (call.find()) {
            boolean overNumbers = call.group(1).matches("Math|Integer|Long") && !call.group(2).endsWith("Exact");
            boolean listed = overNumbers && !call.group(2).equals("random") || FUNCTIONS.contains(call.group());
            Due.isTrue("rule 4: " + call.group() + " is listed", listed);
        }
    }

    private static void atMostSevenParameters(String code) {
        Matcher list = Pattern.compile("\\w+\\(((?:(?:int|long|boolean|[A-Z]\\w*)(?:\\[\\])* \\w+(?:, )?)+)\\) \\{").matcher(code);
        while (list.find()) {
            Due.isTrue("rule 11: at most seven: " + list.group(), list.group(1).split(",").length <= 7);
        }
    }

    private static void shortMethods(String code) {
        Matcher body = Pattern.compile("(?m)^( {4}| {8})\\S[^\\n;=]*\\) \\{\\n(?:\\1 [^\\n]*\\n|\\n)*\\1\\}").matcher(code);
        while (body.find()) {
            String head = body.group().lines().findFirst().orElse("");
            Due.isTrue("rule 11: some sixty lines: " + head, body.group().lines().count() <= 60);
        }
    }

    private static void staticFields(Class<?> of) {
        for (Field field : of.getDeclaredFields()) {
            if (Modifier.isStatic(field.getModifiers()) && !field.isSynthetic()) {
                boolean constant = CONSTANTS.contains(field.getType()) || of.isEnum();
                Due.isTrue("rule 5: " + field + " is a constant", Modifier.isFinal(field.getModifiers()) && constant);
            }
        }
    }

    private static int matches(String code, String pattern) {
        return (int) Pattern.compile(pattern).matcher(code).results().count();
    }
}
