import java.nio.file.Files;
import java.nio.file.Path;
import java.util.Map;
import java.util.regex.Matcher;
import java.util.regex.Pattern;

/** README.md tells of every call, and its examples answer what stands behind them; its path is the third argument. */
public final class ReadmeTest {
    private static final String NEW_BOOK = "SocietyBook book = new SocietyBook();";
    private static final Pattern CALL = Pattern.compile("book\\.(\\w+\\([^()]*\\));\\s+// (-?\\d+|[A-Z]+)\\b.*");
    private static final Map<String, Integer> ANSWERS =
        Map.of("BAD", -1, "FULL", -2, "FINDING", -3, "STATE", -4, "NONE", -9);

    public static void main(String[] args) throws Exception {
        String text = Files.readString(Path.of(args.length > 2 ? args[2] : "README.md"));
        for (String call : Calls.face(SocietyBook.class).keySet()) {
            Due.isTrue("README.md tells of " + call, text.contains("`" + call + "`"));
        }
        Due.isTrue("README.md says how to run the tests", text.contains(".ci/run"));
        Matcher example = Pattern.compile("(?s)```java\n(.*?)```").matcher(text);
        int examples = 0;
        while (example.find()) {
            examples++;
            Due.about("README.md, example " + examples + ": ");
            run(example.group(1));
        }
        Due.isTrue("an example for papers, elections and sets", examples == 3);
        Due.end("ReadmeTest");
    }

    private static void run(String lines) {
        Calls book = new Calls();
        String[] each = lines.split("\n");
        Due.isTrue("it begins with a new book", each[0].equals(NEW_BOOK));
        for (int i = 1; i < each.length; i++) {
            Matcher line = CALL.matcher(each[i]);
            boolean told = line.matches();
            Due.isTrue("'" + each[i] + "' is a call with its answer: that", told);
            if (told) {
                Due.is(line.group(1), book.answer(line.group(1)), due(line.group(2)));
            }
        }
    }

    private static int due(String answer) {
        return ANSWERS.containsKey(answer) ? ANSWERS.get(answer) : Integer.parseInt(answer);
    }
}
