import java.io.IOException;
import java.nio.file.Files;
import java.nio.file.Path;
import java.util.ArrayList;
import java.util.Arrays;
import java.util.List;
import java.util.regex.Matcher;
import java.util.regex.Pattern;

/** The document's text, by sections, with white space folded. */
final class Document {
    /** How 'Terms' writes a boundary: a span of numbers, a limit, a beginning, a lack. */
    private static final Pattern BOUNDARY = Pattern.compile(
        "\\d+ (\\.\\.|to) \\d+|at most|at least|at first|not after|or before|less than|none|once|only|missing|so long|too|"
            + "did not get yet|no balls|\\black\\b|BAD -1|FULL -2|STATE -4|FINDING -3|NONE -9|refused|of alike ones");

    private final List<String> promises = new ArrayList<>();
    private final String terms;

    Document(Path path) throws IOException {
        String[] sections = Files.readString(path).split("(?m)^## ");
        StringBuilder general = new StringBuilder();
        for (String section : sections) {
            if (section.startsWith("Promise ")) {
                promises.add(folded(section.substring(section.indexOf('\n'))));
            } else if (section.startsWith("Terms") || section.startsWith("What it is")) {
                general.append(section);
            }
        }
        terms = folded(general.toString());
    }

    private static String folded(String text) {
        return text.replaceAll("\\s+", " ").trim();
    }

    int promiseCount() {
        return promises.size();
    }

    boolean says(Due.Quote quote) {
        return promises.get(quote.promise() - 1).contains(quote.words()) || terms.contains(quote.words());
    }

    /** The parts of a promise between its stops. */
    List<String> parts(int promise) {
        List<String> parts = new ArrayList<>();
        String text = promises.get(promise - 1);
        for (String part : text.substring(text.indexOf("`:") + 2).split("(?<!\\.)\\.(?=\\s|$|\\))|;")) {
            if (part.matches(".*\\w.*")) {
                parts.add(part.trim());
            }
        }
        return parts;
    }

    /** The boundaries that 'Terms' names outside these words. */
    List<String> boundariesBeside(List<Due.Quote> quotes) {
        String rest = terms.substring(terms.indexOf("An object is used"));
        boolean[] quoted = new boolean[rest.length()];
        for (Due.Quote quote : quotes) {
            for (int at = rest.indexOf(quote.words()); at >= 0; at = rest.indexOf(quote.words(), at + 1)) {
                Arrays.fill(quoted, at, at + quote.words().length(), true);
            }
        }
        List<String> beside = new ArrayList<>();
        Matcher boundary = BOUNDARY.matcher(rest);
        while (boundary.find()) {
            if (!quoted[boundary.start()] || !quoted[boundary.end() - 1]) {
                int from = Math.max(0, boundary.start() - 30);
                beside.add(rest.substring(from, Math.min(rest.length(), boundary.end() + 30)));
            }
        }
        return beside;
    }
}
