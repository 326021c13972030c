import java.nio.file.Path;

/**
 * Every sentence of the document that names a boundary case, by a test of its own that names the promise; and that there is
 * no part of a promise, and no boundary in 'Terms', without a test. The document's path is the second argument.
 */
public final class SentencesTest {
    public static void main(String[] args) throws Exception {
        PaperSentences.all();
        PrioritySentences.all();
        ElectionSentences.all();
        SetSentences.all();
        ToldSentences.all();
        TermSentences.all();
        Document document = new Document(Path.of(args.length > 1 ? args[1] : "../shared/DOC.md"));
        Due.about("the document: ");
        Due.is("promises", document.promiseCount(), 38);
        for (Due.Quote quote : Due.quotes()) {
            Due.isTrue("promise " + quote.promise() + " or 'Terms' says '" + quote.words() + "': that", document.says(quote));
        }
        for (int promise = 1; promise <= document.promiseCount(); promise++) {
            for (String part : document.parts(promise)) {
                Due.isTrue("promise " + promise + " has a test for '" + part + "': that", isTested(promise, part));
            }
        }
        for (String boundary : document.boundariesBeside(Due.quotes())) {
            Due.isTrue("a test for '" + boundary + "' in 'Terms': that", false);
        }
        System.out.println("SentencesTest: " + Due.quotes().size() + " sentences");
        Due.end("SentencesTest");
    }

    private static boolean isTested(int promise, String part) {
        for (Due.Quote quote : Due.quotes()) {
            if (quote.promise() == promise && (quote.words().contains(part) || part.contains(bare(quote.words())))) {
                return true;
            }
        }
        return false;
    }

    /** Without the stop at the end, which is not part of what is told. */
    private static String bare(String words) {
        return words.replaceAll("[.;]$", "");
    }
}
