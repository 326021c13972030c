import java.util.ArrayList;
import java.util.List;

/** Compares answers with those that are due, and ends a test with exit code 1 if one differed. */
final class Due {
    private static final int MOST_MINUTES = 10;
    private static final List<Quote> QUOTES = new ArrayList<>();
    private static String about = "";
    private static int wrong = 0;
    private static int seen = 0;

    static {
        Thread watch = new Thread(Due::failIfNeverDone);
        watch.setDaemon(true);
        watch.start();
    }

    private Due() {
    }

    /** The words of the document that a test looks at, and the promise that it names. */
    record Quote(int promise, String words) {
    }

    static void says(int promise, String words) {
        QUOTES.add(new Quote(promise, words));
        about("promise " + promise + " '" + words + "': ");
    }

    /** What stands ahead of whatever is found wrong from now on. */
    static void about(String what) {
        about = what;
    }

    static List<Quote> quotes() {
        return QUOTES;
    }

    static void is(String call, long got, long want) {
        seen++;
        if (got != want) {
            wrong(call + " answered " + got + ", due is " + want);
        }
    }

    static void isTrue(String what, boolean holds) {
        seen++;
        if (!holds) {
            wrong(what + " does not hold");
        }
    }

    private static void wrong(String how) {
        wrong++;
        System.out.println(about + how);
    }

    static void end(String test) {
        System.out.println(test + ": " + seen + " looked at, " + wrong + " wrong");
        if (wrong != 0 || seen == 0) {
            System.exit(1);
        }
    }

    /** A call that does not end is a fault, too (LANGUAGE.md, rule 7). */
    private static void failIfNeverDone() {
        try {
            Thread.sleep(MOST_MINUTES * 60_000L);
        } catch (InterruptedException stopped) {
            return;
        }
        System.out.println(about + "not done after " + MOST_MINUTES + " minutes");
        Runtime.getRuntime().halt(1);
    }
}
