import java.nio.file.Files;
import java.nio.file.Path;
import java.util.regex.Matcher;
import java.util.regex.Pattern;

/** Those rules of LANGUAGE.md that can be seen in the text of the program; its path is the argument. */
public final class LanguageTest {
    private static final String[] FORBIDDEN_WORDS = {
        "throw", "throws", "try", "catch", "synchronized", "assert", "import", "package", "protected", "native",
        "volatile", "transient", "var", "hashCode", "toString", "Object", "Random", "Thread", "Exception",
    };

    public static void main(String[] args) throws Exception {
        String code = Files.readString(Path.of(args.length > 0 ? args[0] : "src/main/java/SocietyBook.java"));
        code = code.replaceAll("(?s)/\\*.*?\\*/", " ").replaceAll("//[^\\n]*", " ");
        for (String word : FORBIDDEN_WORDS) {
            Due.isTrue("no " + word, !Pattern.compile("\\b" + word + "\\b").matcher(code).find());
        }
        Due.isTrue("no lambda", !code.contains("->"));
        Due.isTrue("no method reference", !code.contains("::"));
        Due.isTrue("no function whose name ends in Exact", !code.contains("Exact("));
        Due.isTrue("some twelve classes at most", matches(code, "\\b(class|record|enum|interface)\\s+\\w+") <= 12);
        onlyListedLibrary(code);
        atMostSevenParameters(code);
        shortMethods(code);
        Due.end("LanguageTest");
    }

    private static void onlyListedLibrary(String code) {
        Matcher call = Pattern.compile("\\b(Math|Integer|Long|System|Arrays|String)\\.(\\w+)").matcher(code);
        while (call.find()) {
            String name = call.group(1) + "." + call.group(2);
            boolean listed = name.equals("Math.min") || name.equals("Math.max") || name.equals("Integer.bitCount")
                || name.equals("System.arraycopy");
            Due.isTrue(name + " is listed", listed);
        }
    }

    private static void atMostSevenParameters(String code) {
        Matcher list = Pattern.compile("\\w+\\(((?:(?:int|long|boolean|[A-Z]\\w*)(?:\\[\\])* \\w+(?:, )?)+)\\) \\{").matcher(code);
        while (list.find()) {
            Due.isTrue("at most seven: " + list.group(), list.group(1).split(",").length <= 7);
        }
    }

    private static void shortMethods(String code) {
        Matcher body = Pattern.compile("(?m)^( {4}| {8})\\S[^\\n;=]*\\) \\{\\n(?:\\1 [^\\n]*\\n|\\n)*\\1\\}").matcher(code);
        while (body.find()) {
            Due.isTrue("some sixty lines: " + body.group().lines().findFirst().orElse(""), body.group().lines().count() <= 60);
        }
    }

    private static int matches(String code, String pattern) {
        Matcher m = Pattern.compile(pattern).matcher(code);
        int n = 0;
        while (m.find()) {
            n++;
        }
        return n;
    }
}
