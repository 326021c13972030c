import java.util.ArrayList;
import java.util.List;
import java.util.Map;

/**
 * A test of one sentence of the document: a run of calls on a new book, one a line, as "call = answer that is due",
 * or the call alone, if its answer is not looked at; "3 * call" is made three times, and "#" begins a remark.
 * A FINDING is told by its name. Whatever is refused is looked at for having changed nothing, too.
 */
final class Sentence {
    private static final Map<String, Integer> ANSWERS = Map.of("BAD", -1, "FULL", -2, "STATE", -4, "NONE", -9);
    private static final List<String> FINDINGS = List.of("NOTHING", "BEYOND", "UNLIKE", "NOUGHT", "SIZE");
    private static final int FINDING = -3;

    private final Calls book = new Calls();
    private final List<String> made = new ArrayList<>();

    private Sentence() {
    }

    static void says(int promise, String words, String... runs) {
        Due.says(promise, words);
        Sentence test = new Sentence();
        for (String run : runs) {
            run.lines().map(line -> line.replaceAll("#.*", "").trim()).filter(line -> !line.isEmpty()).forEach(test::line);
        }
    }

    private void line(String line) {
        String[] sides = line.split("\\s=\\s");
        String[] factors = sides[0].split("\\s\\*\\s");
        String call = factors[factors.length - 1].trim();
        int times = factors.length == 1 ? 1 : Integer.parseInt(factors[0].trim());
        for (int i = 0; i < times; i++) {
            if (sides.length == 1) {
                book.answer(call);
            } else {
                due(call, sides[1].trim());
            }
            made.add(call);
        }
    }

    private void due(String call, String answer) {
        int finding = FINDINGS.indexOf(answer) + 1;
        String told = call + " (call " + (made.size() + 1) + ")";
        if (finding > 0) {
            Due.is(told, book.answer(call), FINDING);
            changesNothing(call, finding);
        } else if (ANSWERS.containsKey(answer)) {
            Due.is(told, book.answer(call), ANSWERS.get(answer));
            changesNothing(call, 0);
        } else {
            Due.is(told, book.answer(call), Long.parseLong(answer));
        }
    }

    /** Two books with the same calls so far, of which one hears this one, too, tell the same but for FINDINGS. */
    private void changesNothing(String call, int finding) {
        Calls heard = soFar();
        Calls spared = soFar();
        heard.answer(call);
        for (int f = 1; f <= FINDINGS.size(); f++) {
            String asked = "findings(" + f + ")";
            Due.is(asked + " after " + call, heard.answer(asked), spared.answer(asked) + (f == finding ? 1 : 0));
        }
        long latest = spared.answer("finding()");
        Due.is("finding() after " + call, heard.answer("finding()"), finding > 0 ? finding : latest);
        List<String> one = Look.at(heard);
        List<String> other = Look.at(spared);
        for (int i = 0; i < Math.min(one.size(), other.size()); i++) {
            if (!one.get(i).equals(other.get(i))) {
                Due.isTrue(call + " changes nothing, but now " + one.get(i) + ", without it " + other.get(i) + ": that", false);
                return;
            }
        }
        Due.is("what is told after " + call, one.size(), other.size());
    }

    private Calls soFar() {
        Calls again = new Calls();
        for (String call : made) {
            again.answer(call);
        }
        return again;
    }
}
