import java.util.ArrayList;
import java.util.List;

/** What a book tells of itself, and of its posts, medals and byelaws by what comes of using them: it is used up. */
final class Look {
    private static final int MOST_OF_EACH = 5;

    private final Calls book;
    private final List<String> told = new ArrayList<>();

    private Look(Calls book) {
        this.book = book;
    }

    static List<String> at(Calls book) {
        Look look = new Look(book);
        look.see("digest()");
        look.see("asked()");
        look.atSets();
        look.atPapers();
        look.atPriority();
        look.atMedals();
        look.atPosts();
        look.atWhatComes();
        return look.told;
    }

    private long see(String call) {
        long answer = book.answer(call);
        told.add(call + " = " + answer);
        return answer;
    }

    private long few(int what) {
        return Math.min(MOST_OF_EACH, see("count(" + what + ")"));
    }

    private void atSets() {
        see("lacks()");
        for (int partners = 2; partners <= 62; partners += 12) {
            see("swaps(" + partners + ")");
        }
        see("whole()");
        see("asked()");
    }

    private void atPapers() {
        long today = see("count(0)");
        long papers = few(2);
        for (int paper = 0; paper < papers; paper++) {
            see("mark(" + paper + ", " + see("told(" + paper + ", 0)") + ")");
            for (int what = 0; what < 3; what++) {
                see("known(" + paper + ", " + what + ", " + today / 2 + ")");
            }
            for (int statute = 0; statute < 3; statute++) {
                see("when(" + paper + ", " + statute + ", " + today + ", " + (paper % 2 == 0) + ")");
            }
        }
        see("mean()");
    }

    private void atPriority() {
        long today = see("count(0)");
        for (int day = 0; day <= 60; day += 10) {
            see("force(" + day + ")");
        }
        see("force(30000)");
        for (int claim = 0; claim < 4; claim++) {
            see("first(" + claim + ", " + today + ", " + today + ")");
            see("asked()");
        }
    }

    private void atMedals() {
        long fellows = few(1);
        for (int fellow = 0; fellow < fellows; fellow++) {
            for (int medal = 0; medal < 4; medal++) {
                see("medals(" + medal + ", " + fellow + ")");
            }
        }
    }

    private void atPosts() {
        long today = see("count(0)");
        long statute = see("statute(30000, 0, false)");
        for (int post = 0; post < 6; post++) {
            long letter = see("paper(2, 0, 1, " + today + ", " + post + ")");
            see("when(" + letter + ", " + statute + ", " + today + ", false)");
            see("when(" + letter + ", " + statute + ", " + today + ", true)");
        }
    }

    private void atWhatComes() {
        long candidates = few(6);
        for (int round = 0; round < 3; round++) {
            for (int candidate = 0; candidate < candidates; candidate++) {
                see("ballot(" + candidate + ", 3, " + (2 - round) + ")");
            }
            for (int medal = 0; medal < 4; medal++) {
                see("award(" + medal + ", 0)");
            }
            see("later(20)");
        }
        see("digest()");
    }
}
