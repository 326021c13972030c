/** Promises 1 to 10: a new book, days, fellows, posts, papers and their notes. */
final class PaperSentences {
    /** Day 100; fellows 0 to 2; papers 0 (a PAPER by 0), 1 (SEALED, by 1), 2 (a LETTER by 2, SPAN 90 to 110). */
    static final String PAPERS = """
        3 * fellow()
        post(4, 10, 30)
        later(100)
        paper(0, 0, 3, -7, 99)
        paper(1, 1, 5, -7, 99)
        paper(2, 2, 9, 80, 4)
        """;

    private PaperSentences() {
    }

    static void all() {
        newObject();
        later();
        fellow();
        post();
        postAtFirst();
        paper();
        paperBad();
        letterBad();
        paperFull();
        note();
        noteBad();
        noteFull();
        noteOrder();
        notePutRight();
        noteOfLetter();
        spanOfLetter();
        open();
        openBad();
        openRefused();
        told();
        mark();
        markRefused();
        known();
        knownRefused();
    }

    private static void newObject() {
        Sentence.says(1, "No FELLOWS", """
            count(1) = 0
            paper(0, 0, 0, 0, 0) = BAD
            candidate(1) = BAD
            award(0, 0) = BAD
            medals(0, 0) = BAD
            fellow() = 0
            medals(0, 0) = 0
            """);
        Sentence.says(1, "PAPERS", """
            count(2) = 0
            count(3) = 0
            fellow()
            told(0, 0) = BAD
            note(0, 0, 0) = BAD
            mark(0, 0) = BAD
            known(0, 0, 0) = BAD
            mean() = NOUGHT
            paper(0, 0, 0, 0, 0) = 0
            told(0, 0) = 0
            """);
        Sentence.says(1, "STATUTES", """
            count(4) = 0
            count(5) = 0                # nor BYELAWS
            force(0) = NONE
            force(30000) = NONE
            first(0, 30000, 30000) = STATE
            statute(0, 0, false) = 0
            byelaw(0, 0, 0, 0, 0, 1) = 0
            """);
        Sentence.says(1, "CANDIDATES", """
            fellow()
            count(6) = 0
            withdraw(0) = BAD
            propose(0, 0) = BAD
            ballot(0, 1, 0) = BAD
            candidate(0) = 0
            count(7) = 0                # nor AWARDS
            """);
        Sentence.says(1, "TODAY 0", """
            count(0) = 0
            fellow()
            paper(2, 0, 0, 1, 0) = BAD
            paper(2, 0, 0, 0, 0) = 0
            note(0, 0, 1) = BAD
            note(0, 0, 0) = 1
            told(0, 3) = 0
            """);
        Due.says(1, "No FELLOWS, PAPERS, STATUTES, CANDIDATES; TODAY 0.");
        Calls used = new Calls();
        PAPERS.lines().map(line -> line.replaceAll(".*\\*", "").trim()).forEach(used::answer);
        used.answer("stock(0, 0, 9)");
        used.answer("sheet(0, 12)");
        Due.is("digest() of a book made behind another one", new SocietyBook().digest(), ToldSentences.digestOfNew());
    }

    private static void later() {
        Sentence.says(2, "TODAY is n days later: it.", """
            later(0) = 0
            later(7) = 7
            later(0) = 7
            later(1) = 8
            count(0) = 8
            """);
        Sentence.says(2, "BAD: n below 0", """
            later(-1) = BAD
            later(MIN) = BAD
            later(9) = 9
            later(-1) = BAD
            later(-9) = BAD
            later(-10) = BAD
            later(MIN) = BAD
            count(0) = 9
            """);
        Sentence.says(2, "beyond 30000", """
            later(30001) = BAD
            later(MAX) = BAD
            later(1) = 1
            later(30000) = BAD          # the day, not n alone
            later(29999) = 30000
            later(1) = BAD
            later(0) = 30000
            later(MAX) = BAD
            later(2147453648) = BAD     # the sum would wrap around to the least number
            count(0) = 30000
            """);
        Sentence.says(2, "TODAY is a day (0 .. 30000; 0 at first), which only goes on.", """
            count(0) = 0
            later(30000) = 30000
            later(-30000) = BAD
            count(0) = 30000
            """);
    }

    private static void fellow() {
        Sentence.says(3, "A FELLOW: its number.", """
            fellow() = 0
            fellow() = 1
            count(1) = 2
            fellow() = 2
            """);
        Sentence.says(3, "FULL.", """
            15 * fellow()
            fellow() = 15
            fellow() = FULL
            fellow() = FULL
            count(1) = 16
            """);
        Sentence.says(3, "FELLOWS 0, 1, .. (16 at most).", """
            15 * fellow()
            byelaw(0, 0, 0, 0, 0, 1)
            2 * candidate(0)
            ballot(0, 1, 0) = 1         # an elected one is a FELLOW, too
            fellow() = FULL
            count(1) = 16
            paper(0, 15, 0, 0, 0) = 0
            paper(0, 16, 0, 0, 0) = BAD
            """);
    }

    private static void post() {
        Sentence.says(4, "A POST takes from least to most days: 1.", """
            fellow()
            statute(0, 0, false)
            post(2, 3, 4) = 1
            post(3, 7, 7) = 1
            paper(2, 0, 0, 0, 2)
            paper(2, 0, 0, 0, 3)
            when(0, 0, 0, false) = 3
            when(0, 0, 0, true) = 4
            when(1, 0, 0, false) = 7
            when(1, 0, 0, true) = 7
            """);
        Sentence.says(4, "BAD: least above most, too.", """
            fellow()
            post(5, 2, 3)
            post(5, 3, 2) = BAD
            post(5, 1, 0) = BAD
            post(5, 500, 499) = BAD
            post(5, 3, 3) = 1
            post(5, 0, 0) = 1
            """);
        Sentence.says(4, "POSTS 0 .. 5", """
            fellow()
            post(-1, 0, 0) = BAD
            post(6, 0, 0) = BAD
            post(MIN, 0, 0) = BAD
            post(MAX, 0, 0) = BAD
            post(0, 1, 2) = 1
            post(5, 3, 4) = 1
            """);
        Sentence.says(4, "take from least to most days (0 .. 500;", """
            fellow()
            post(1, -1, 5) = BAD
            post(1, -1, -1) = BAD
            post(1, 0, -1) = BAD
            post(1, MIN, 0) = BAD
            post(1, MIN, MIN) = BAD
            post(1, 0, 501) = BAD
            post(1, 500, 501) = BAD
            post(1, 501, 501) = BAD
            post(1, 0, MAX) = BAD
            post(1, MAX, MAX) = BAD
            post(1, MAX, 0) = BAD
            post(1, 0, 500) = 1
            post(1, 500, 500) = 1
            post(1, 0, 0) = 1
            """);
    }

    private static void postAtFirst() {
        StringBuilder run = new StringBuilder("fellow()\nstatute(0, 0, false)\nlater(9)\n");
        for (int post = 0; post < 6; post++) {
            run.append("paper(2, 0, 0, 4, " + post + ") = " + post + "\n");
            run.append("when(" + post + ", 0, 9, false) = 4\n");
            run.append("when(" + post + ", 0, 9, true) = 4\n");
        }
        Sentence.says(4, "0 and 0 at first).", run.toString());
    }

    private static void paper() {
        Sentence.says(5, "A PAPER: its number.", """
            fellow()
            paper(0, 0, 0, 0, 0) = 0
            paper(1, 0, 0, 0, 0) = 1
            paper(2, 0, 0, 0, 0) = 2
            count(2) = 3
            """);
        Sentence.says(5, "sent, post: of a LETTER (else not looked at).", """
            fellow()
            paper(0, 0, 1, MAX, MIN) = 0
            paper(1, 0, 1, MIN, MAX) = 1
            paper(0, 0, 1, 1, 0) = 2
            paper(1, 0, 1, 0, 6) = 3
            paper(0, 0, 1, -1, -1) = 4
            paper(2, 0, 1, 1, 0) = BAD
            paper(2, 0, 1, 0, 6) = BAD
            """);
        Sentence.says(5, "(a PAPER, too: deposited on the day on which it is told)", """
            fellow()
            later(30)
            paper(1, 0, 1, 7, 0) = 0
            later(5)
            told(0, 3) = 30
            told(0, 0) = 1
            """);
    }

    private static void paperBad() {
        Sentence.says(5, "BAD", """
            fellow()
            paper(-1, 0, 0, 0, 0) = BAD
            paper(3, 0, 0, 0, 0) = BAD
            paper(MIN, 0, 0, 0, 0) = BAD
            paper(MAX, 0, 0, 0, 0) = BAD
            count(2) = 0
            """);
        Sentence.says(5, "by a FELLOW", """
            2 * fellow()
            paper(0, -1, 0, 0, 0) = BAD
            paper(1, 2, 0, 0, 0) = BAD
            paper(2, 2, 0, 0, 0) = BAD
            paper(0, MIN, 0, 0, 0) = BAD
            paper(0, MAX, 0, 0, 0) = BAD
            paper(0, 1, 0, 0, 0) = 0
            told(0, 1) = 1
            """);
        Sentence.says(5, "with CLAIMS (a set of 0 .. 15)", """
            fellow()
            paper(0, 0, -1, 0, 0) = BAD
            paper(1, 0, 65536, 0, 0) = BAD
            paper(2, 0, 65537, 0, 0) = BAD
            paper(0, 0, MIN, 0, 0) = BAD
            paper(0, 0, MAX, 0, 0) = BAD
            paper(0, 0, 0, 0, 0) = 0
            paper(0, 0, 65535, 0, 0) = 1
            paper(0, 0, 32768, 0, 0) = 2
            told(0, 2) = 0
            told(1, 2) = 65535
            told(2, 2) = 32768
            """);
    }

    private static void letterBad() {
        Sentence.says(5, "SENT on a day, TODAY at most", """
            fellow()
            later(10)
            paper(2, 0, 0, 11, 0) = BAD
            paper(2, 0, 0, -1, 0) = BAD
            paper(2, 0, 0, MIN, 0) = BAD
            paper(2, 0, 0, MAX, 0) = BAD
            paper(2, 0, 0, 10, 0) = 0
            paper(2, 0, 0, 0, 0) = 1
            mark(0, 2) = 10
            mark(1, 2) = 0
            """);
        Sentence.says(5, "by a POST", """
            fellow()
            paper(2, 0, 0, 0, -1) = BAD
            paper(2, 0, 0, 0, 6) = BAD
            paper(2, 0, 0, 0, MIN) = BAD
            paper(2, 0, 0, 0, MAX) = BAD
            paper(2, 0, 0, 0, 0) = 0
            paper(2, 0, 0, 0, 5) = 1
            """);
    }

    private static void paperFull() {
        Sentence.says(5, "FULL", """
            fellow()
            23 * paper(0, 0, 1, 0, 0)
            paper(2, 0, 1, 0, 0) = 23
            paper(0, 0, 1, 0, 0) = FULL
            paper(1, 0, 1, 0, 0) = FULL
            paper(2, 0, 1, 0, 0) = FULL
            """);
        Sentence.says(5, "PAPERS 0, 1, .. (24 at most)", """
            fellow()
            24 * paper(1, 0, 1, 0, 0)
            count(2) = 24
            told(23, 0) = 1
            told(24, 0) = BAD
            paper(0, 0, 1, 0, 0) = FULL
            told(24, 0) = BAD
            """);
        Sentence.says(5, "Refused is, the first of these that fits, in this order: BAD -1", """
            fellow()
            24 * paper(0, 0, 1, 0, 0)
            paper(3, 0, 1, 0, 0) = BAD
            paper(0, 1, 1, 0, 0) = BAD
            paper(0, 0, 65536, 0, 0) = BAD
            paper(2, 0, 1, 1, 0) = BAD
            paper(2, 0, 1, 0, 6) = BAD
            """);
    }

    private static void note() {
        Sentence.says(6, "how many there are.", PAPERS, """
            note(0, 0, 50) = 1
            note(1, 0, 60) = 2
            note(0, 0, 40) = 3          # that puts the first right, and both are there
            note(0, 1, 70) = 4
            count(3) = 4
            """);
        Sentence.says(6, "and puts earlier ones of the same right.", PAPERS, """
            note(0, 0, 50) = 1
            note(1, 0, 60) = 2
            note(0, 0, 40) = 3
            note(0, 1, 70) = 4
            note(0, 1, 45) = 5
            told(0, 4) = 40
            told(0, 5) = 45
            told(1, 4) = 60
            """);
    }

    private static void noteBad() {
        Sentence.says(6, "BAD: the PAPER", PAPERS, """
            note(-1, 0, 50) = BAD
            note(3, 0, 50) = BAD
            note(MIN, 0, 50) = BAD
            note(MAX, 0, 50) = BAD
            note(0, 0, 50) = 1
            note(2, 0, 90) = 2
            """);
        Sentence.says(6, "BAD: the PAPER, what", PAPERS, """
            note(0, 0, 50)
            note(0, 1, 50)
            note(0, -1, 50) = BAD
            note(0, 3, 50) = BAD
            note(0, MIN, 50) = BAD
            note(0, MAX, 50) = BAD
            note(0, 2, 50) = 3
            """);
        Sentence.says(6, "BAD: the PAPER, what, the day", PAPERS, """
            note(0, 0, -1) = BAD
            note(0, 0, 101) = BAD
            note(0, 0, MIN) = BAD
            note(0, 0, MAX) = BAD
            note(0, 0, 0) = 1
            note(0, 0, 100) = 2
            told(0, 4) = 100
            """);
        Sentence.says(6, "(0), READ (1), PRINTED (2) on a day, TODAY at most;", PAPERS, """
            note(0, 0, 100)
            note(0, 1, 101) = BAD
            note(0, 1, 100) = 2
            note(0, 2, 101) = BAD
            note(0, 2, 100) = 3
            note(2, 0, 101) = BAD       # in its SPAN, but not yet
            later(1)
            note(2, 0, 101) = 4
            """);
    }

    private static void noteFull() {
        Sentence.says(6, "FULL", PAPERS, """
            99 * note(0, 0, 50)
            note(1, 0, 60) = 100
            note(0, 0, 40) = FULL
            note(1, 1, 70) = FULL
            told(0, 4) = 50
            """);
        StringBuilder run = new StringBuilder();
        for (int i = 1; i <= 100; i++) {
            run.append("note(" + i % 2 + ", 0, " + i % 100 + ") = " + i + "\n");
        }
        Sentence.says(6, "each NOTE (100 at most in all)", PAPERS, run.toString(), """
            note(2, 0, 95) = FULL
            count(3) = 100
            told(0, 4) = 0
            known(1, 0, 100) = 99
            """);
        Sentence.says(6, "in this order: BAD -1 (a number that is none, or not as told), FULL -2, STATE -4 (not now)", PAPERS, """
            note(0, 2, 101) = BAD       # ahead of STATE
            100 * note(0, 0, 50)
            note(0, 2, 50) = FULL       # ahead of STATE
            note(2, 0, 89) = FULL
            note(3, 0, 50) = BAD        # ahead of FULL
            note(0, 3, 50) = BAD
            note(0, 0, 101) = BAD
            """);
    }

    private static void noteOrder() {
        Sentence.says(6, "STATE: it would not go so (as told above).", PAPERS, """
            note(0, 1, 50) = STATE
            note(0, 2, 50) = STATE
            note(0, 0, 50) = 1
            note(0, 2, 50) = STATE
            note(0, 1, 49) = STATE
            count(3) = 1
            """);
        Sentence.says(6, "none without that ahead of it", PAPERS, """
            note(1, 0, 10)
            note(1, 1, 10)
            note(0, 1, 50) = STATE      # READ, but not RECEIVED: the other PAPER does not help
            note(0, 2, 50) = STATE
            note(0, 0, 50) = 3
            note(0, 2, 60) = STATE      # PRINTED, but not READ
            note(2, 1, 95) = STATE      # a SPAN is not a NOTE
            """);
        Sentence.says(6, "none earlier than that;", PAPERS, """
            note(0, 0, 50) = 1
            note(0, 1, 49) = STATE
            note(0, 1, 0) = STATE
            note(0, 1, 50) = 2          # the same day is not earlier
            note(0, 1, 60) = 3
            note(0, 2, 59) = STATE
            note(0, 2, 50) = STATE
            note(0, 2, 60) = 4
            """);
    }

    private static void notePutRight() {
        Sentence.says(6, "The last NOTES go: RECEIVED, READ, PRINTED", PAPERS, """
            note(0, 0, 50) = 1
            note(0, 1, 60) = 2
            note(0, 0, 61) = STATE      # RECEIVED put right to behind READ
            note(0, 0, 60) = 3
            note(0, 1, 59) = STATE      # the last RECEIVED counts
            note(0, 2, 70) = 4
            note(0, 1, 71) = STATE      # READ put right to behind PRINTED
            note(0, 1, 70) = 5
            note(0, 2, 69) = STATE
            note(0, 0, 71) = STATE
            note(0, 0, 70) = 6
            """);
        Sentence.says(6, "The last NOTES go: RECEIVED, READ, PRINTED, none without that ahead of it", PAPERS, """
            note(0, 0, 50) = 1
            note(0, 1, 80) = 2
            note(0, 2, 90) = 3
            note(0, 0, 10) = 4
            note(0, 1, 20) = 5          # ahead of the RECEIVED that was put right
            note(0, 2, 30) = 6
            note(0, 1, 31) = STATE      # ahead of the first PRINTED, behind the last
            note(0, 0, 21) = STATE      # ahead of the first READ, behind the last
            note(0, 2, 100) = 7
            note(0, 1, 100) = 8
            note(0, 0, 100) = 9
            """);
    }

    private static void noteOfLetter() {
        Sentence.says(6, "a LETTER is RECEIVED in its SPAN", PAPERS, """
            later(50)
            note(2, 0, 89) = STATE
            note(2, 0, 111) = STATE
            note(2, 0, 90) = 1
            note(2, 0, 110) = 2
            note(2, 0, 111) = STATE
            note(2, 1, 150) = 3         # READ is not bound by it
            note(2, 2, 150) = 4
            note(0, 0, 3) = 5           # nor is a PAPER
            note(1, 0, 150) = 6         # nor a SEALED one
            """);
        Sentence.says(6, "a LETTER is RECEIVED in its SPAN:", PAPERS, """
            later(50)
            note(2, 0, 100) = 1
            note(2, 1, 105) = 2
            note(2, 0, 106) = STATE     # in its SPAN, but behind READ
            note(2, 0, 89) = STATE      # ahead of READ, but not in its SPAN
            note(2, 0, 105) = 3
            """);
    }

    private static void spanOfLetter() {
        Sentence.says(6, "from the day on which it was SENT and least of its POST to that and most", """
            fellow()
            post(0, 0, 500)
            post(1, 500, 500)
            later(600)
            paper(2, 0, 1, 100, 0)
            paper(2, 0, 1, 100, 1)
            paper(2, 0, 1, 100, 2)
            note(0, 0, 99) = STATE
            note(0, 0, 601) = BAD
            note(0, 0, 100) = 1
            note(0, 0, 600) = 2
            note(1, 0, 599) = STATE
            note(1, 0, 600) = 3
            note(2, 0, 101) = STATE     # 0 and 0 days: that day alone
            note(2, 0, 99) = STATE
            note(2, 0, 100) = 4
            later(1)
            note(0, 0, 601) = STATE
            note(1, 0, 601) = STATE
            """);
        Sentence.says(6, "(of the POST as the LETTER was told).", PAPERS, """
            later(50)
            post(4, 0, 500) = 1
            note(2, 0, 111) = STATE
            note(2, 0, 89) = STATE
            post(4, 20, 20) = 1
            note(2, 0, 90) = 1
            note(2, 0, 110) = 2
            """);
    }

    private static void open() {
        Sentence.says(7, "A SEALED PAPER is OPENED TODAY before two FELLOWS: 1.", PAPERS, """
            later(5)
            mark(1, 1) = NONE
            open(1, 0, 2) = 1
            later(5)
            mark(1, 1) = 105
            """);
        Sentence.says(7, "A SEALED one may be OPENED once", """
            3 * fellow()
            paper(1, 0, 1, 0, 0)
            paper(1, 1, 1, 0, 0)
            open(0, 1, 2) = 1           # on day 0, on which it was told
            mark(0, 1) = 0
            open(0, 1, 2) = STATE
            later(1)
            open(0, 2, 1) = STATE
            mark(0, 1) = 0
            open(1, 2, 0) = 1           # another one
            """);
    }

    private static void openBad() {
        Sentence.says(7, "BAD: also the same ones", PAPERS, """
            open(1, 2, 2) = BAD
            open(1, 0, 0) = BAD
            open(1, 1, 1) = BAD
            open(1, 2, 0) = 1
            """);
        Sentence.says(7, "its author", PAPERS, """
            open(1, 1, 2) = BAD
            open(1, 2, 1) = BAD
            open(1, 0, 2) = 1
            """);
        Sentence.says(7, "before two other FELLOWS than its author.", PAPERS, """
            open(1, -1, 2) = BAD
            open(1, 3, 2) = BAD
            open(1, 2, -1) = BAD
            open(1, 2, 3) = BAD
            open(1, MIN, 2) = BAD
            open(1, MAX, 2) = BAD
            open(1, 2, MIN) = BAD
            open(1, 2, MAX) = BAD
            open(1, 0, 1) = BAD
            open(1, 0, 2) = 1
            """);
        Sentence.says(7, "BAD", PAPERS, """
            open(-1, 0, 2) = BAD
            open(3, 0, 2) = BAD
            open(MIN, 0, 2) = BAD
            open(MAX, 0, 2) = BAD
            """);
    }

    private static void openRefused() {
        Sentence.says(7, "STATE: it is", PAPERS, """
            open(1, 0, 2) = 1
            open(1, 0, 2) = STATE
            later(1)
            open(1, 2, 0) = STATE
            mark(1, 1) = 100
            open(1, 2, 1) = BAD         # ahead of STATE
            open(1, 2, 3) = BAD
            """);
        Sentence.says(7, "UNLIKE: not SEALED.", PAPERS, """
            open(0, 1, 2) = UNLIKE
            open(2, 1, 0) = UNLIKE
            open(0, 0, 1) = BAD         # ahead of UNLIKE
            open(2, 1, 1) = BAD
            open(0, 1, 3) = BAD
            """);
        Sentence.says(7, "(UNLIKE ahead of STATE.)", PAPERS, """
            open(0, 1, 2) = UNLIKE
            open(1, 0, 2) = 1
            open(0, 1, 2) = UNLIKE      # again
            open(2, 0, 1) = UNLIKE
            """);
        Sentence.says(7, "3 UNLIKE (a PAPER of another KIND)", PAPERS, """
            findings(3) = 0
            open(0, 1, 2) = -3
            finding() = 3
            mark(0, 2) = -3
            findings(3) = 2
            """);
    }

    private static void told() {
        Sentence.says(8, "Of a PAPER: 0 its KIND, 1 author, 2 CLAIMS, 3 the day on which it was told", PAPERS, """
            later(7)
            told(0, 0) = 0
            told(1, 0) = 1
            told(2, 0) = 2
            told(0, 1) = 0
            told(1, 1) = 1
            told(2, 1) = 2
            told(0, 2) = 3
            told(2, 2) = 9
            told(0, 3) = 100
            told(2, 3) = 100            # not that on which it was SENT
            """);
        Sentence.says(8, "4 to 6 RECEIVED, READ, PRINTED by its last NOTES", PAPERS, """
            note(0, 0, 50)
            note(0, 1, 60)
            note(0, 2, 70)
            note(0, 2, 80)
            note(0, 1, 75)
            note(0, 0, 0)
            told(0, 4) = 0
            told(0, 5) = 75
            told(0, 6) = 80
            """);
        Sentence.says(8, "(NONE)", PAPERS, """
            told(0, 4) = NONE
            told(0, 5) = NONE
            told(0, 6) = NONE
            told(2, 4) = NONE
            note(0, 0, 0)
            told(0, 4) = 0
            told(0, 5) = NONE
            told(1, 4) = NONE
            """);
        Sentence.says(8, "BAD", PAPERS, """
            told(-1, 0) = BAD
            told(3, 0) = BAD
            told(MIN, 0) = BAD
            told(MAX, 0) = BAD
            told(0, -1) = BAD
            told(0, 7) = BAD
            told(0, MIN) = BAD
            told(0, MAX) = BAD
            """);
    }

    private static void mark() {
        Sentence.says(9, "a SEALED one the day on which it was OPENED (NONE)", PAPERS, """
            mark(1, 1) = NONE
            later(4)
            open(1, 2, 0)
            later(4)
            mark(1, 1) = 104
            """);
        Sentence.says(9, "a LETTER the day on which it was SENT", PAPERS, """
            mark(2, 2) = 80
            paper(2, 0, 0, 0, 0)
            mark(3, 2) = 0
            note(2, 0, 95)
            mark(2, 2) = 80
            """);
        Sentence.says(9, "any (0) how many CLAIMS.", PAPERS, """
            paper(0, 0, 65535, 0, 0)
            paper(1, 0, 0, 0, 0)
            paper(2, 0, 32768, 0, 0)
            mark(0, 0) = 2
            mark(1, 0) = 2
            mark(2, 0) = 2
            mark(3, 0) = 16
            mark(4, 0) = 0
            mark(5, 0) = 1
            """);
    }

    private static void markRefused() {
        Sentence.says(9, "BAD: also the KIND", PAPERS, """
            mark(0, -1) = BAD
            mark(0, 3) = BAD
            mark(1, MIN) = BAD
            mark(2, MAX) = BAD
            """);
        Sentence.says(9, "BAD", PAPERS, """
            mark(-1, 0) = BAD
            mark(3, 0) = BAD
            mark(MIN, 1) = BAD
            mark(MAX, 2) = BAD
            """);
        Sentence.says(9, "UNLIKE.", PAPERS, """
            mark(0, 1) = UNLIKE
            mark(2, 1) = UNLIKE
            mark(0, 2) = UNLIKE
            mark(1, 2) = UNLIKE
            mark(1, 0) = 2              # any PAPER is one
            mark(3, 1) = BAD            # ahead of UNLIKE
            """);
    }

    private static void known() {
        Sentence.says(10, "What the last NOTE that was known on day k tells of a PAPER (what 0 to 2)", PAPERS, """
            note(0, 0, 50)
            note(0, 0, 51)
            later(10)
            note(0, 0, 20)
            note(0, 1, 30)
            note(0, 2, 40)
            note(1, 0, 9)
            known(0, 0, 100) = 51       # the last of that day
            known(0, 0, 109) = 51
            known(0, 0, 110) = 20
            known(0, 0, 30000) = 20
            known(0, 1, 110) = 30
            known(0, 2, 110) = 40
            known(1, 0, 110) = 9
            """);
        Sentence.says(10, "is known from the day on which it is told", """
            fellow()
            paper(0, 0, 0, 0, 0)
            note(0, 0, 0)
            known(0, 0, 0) = 0          # on day 0 already
            later(1)
            note(0, 1, 0)
            known(0, 1, 0) = NONE       # not from the day that it tells
            known(0, 1, 1) = 0
            later(1)
            note(0, 1, 2)
            known(0, 1, 1) = 0
            known(0, 1, 2) = 2
            """);
        Sentence.says(10, "NONE", PAPERS, """
            note(0, 0, 50)
            known(0, 0, 99) = NONE
            known(0, 0, 0) = NONE
            known(0, 0, 50) = NONE
            known(0, 1, 100) = NONE
            known(0, 2, 30000) = NONE
            known(1, 0, 100) = NONE
            known(2, 0, 100) = NONE     # a SPAN is not a NOTE
            known(0, 0, 100) = 50
            """);
    }

    private static void knownRefused() {
        Sentence.says(10, "BAD", PAPERS, "note(0, 0, 50)", """
            known(0, 0, -1) = BAD
            known(0, 0, 30001) = BAD
            known(0, 0, MIN) = BAD
            known(0, 0, MAX) = BAD
            known(0, 0, 30000) = 50
            """);
        Sentence.says(10, "BAD.", PAPERS, """
            known(-1, 0, 100) = BAD
            known(3, 0, 100) = BAD
            known(MIN, 0, 100) = BAD
            known(MAX, 0, 100) = BAD
            known(0, -1, 100) = BAD
            known(0, 3, 100) = BAD
            known(0, MIN, 100) = BAD
            known(0, MAX, 100) = BAD
            """);
    }
}
