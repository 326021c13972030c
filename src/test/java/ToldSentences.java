/** Promises 34 to 38: what is told. */
final class ToldSentences {
    private static final String PAPERS = PaperSentences.PAPERS;

    private ToldSentences() {
    }

    static void all() {
        asked();
        askedRefused();
        count();
        countBad();
        finding();
        findings();
        digestBegins();
        digestOfAll();
        digestCounts();
    }

    private static void asked() {
        Sentence.says(34, "0 before.", """
            asked() = 0
            first(0, 0, 0) = STATE
            whole() = NONE
            swaps(62) = 0
            asked() = 0
            """);
        Sentence.says(34, "What the latest first(), ballot() (1), whole()", PAPERS, """
            statute(0, 0, false)
            byelaw(0, 0, 1, 0, 0, 1)
            first(3, 0, 100) = 1
            asked() = 4
            candidate(0)
            ballot(0, 1, 0) = 3             # barred: it told nothing
            asked() = 4
            propose(0, 0)
            ballot(0, 1, 0) = 1
            asked() = 3
            """, SetSentences.society("1"), """
            whole() = 0
            asked() = 0
            stock(0, 0, 0)
            stock(0, 1, 2)
            stock(4, 0, 2)
            whole() = 1
            asked() = 16
            first(3, 0, 100) = 1
            asked() = 4
            first(9, 0, 100) = 0            # the empty set was told
            asked() = 0
            """);
    }

    private static void askedRefused() {
        Sentence.says(34, "that was not refused (nor NONE) told", PAPERS, """
            statute(10, 0, false)
            candidate(0)
            first(3, 10, 100) = 1
            asked() = 4
            first(16, 10, 100) = BAD
            first(3, 9, 100) = STATE
            ballot(1, 1, 0) = BAD
            ballot(0, 1, 0) = STATE
            byelaw(0, 0, 0, 0, 0, 1)
            ballot(0, 0, 0) = 5
            withdraw(0)
            ballot(0, 1, 0) = NOTHING
            13 * fellow()
            ballot(0, 1, 0) = FULL
            whole() = NONE
            asked() = 4
            """);
    }

    private static void count() {
        Sentence.says(35, "0 TODAY, 1 FELLOWS, 2 PAPERS, 3 NOTES, 4 STATUTES, 5 BYELAWS, 6 CANDIDATES ever, 7 AWARDS.", PAPERS, """
            note(0, 0, 99)
            note(0, 1, 99)
            note(0, 2, 99)
            note(1, 0, 1)
            5 * statute(0, 0, true)
            6 * byelaw(0, 0, 0, 0, 0, 1)
            7 * candidate(1)
            8 * award(0, 0)
            count(0) = 100
            count(1) = 3
            count(2) = 3
            count(3) = 4
            count(4) = 5
            count(5) = 6
            count(6) = 7
            count(7) = 8
            """);
        Sentence.says(35, "6 CANDIDATES ever", """
            fellow()
            byelaw(0, 0, 0, 0, 0, 1)
            3 * candidate(1)
            withdraw(0)
            ballot(1, 1, 0) = 1
            count(6) = 3
            count(1) = 2
            """);
    }

    private static void countBad() {
        Sentence.says(35, "BAD.", """
            count(-1) = BAD
            count(8) = BAD
            count(MIN) = BAD
            count(MAX) = BAD
            count(7) = 0
            """);
    }

    private static void finding() {
        Sentence.says(36, "The latest FINDING", PAPERS, """
            tear(0) = NOTHING
            sheet(0, 1)
            lay(0, 1, 0) = BEYOND
            mark(0, 1) = UNLIKE
            mean() = NOUGHT
            sheet(0, -1) = SIZE
            finding() = 5
            sheet(0, 13) = BAD              # these are no FINDINGS
            note(0, 2, 1) = STATE
            known(0, 0, 0) = NONE
            sheet(0, 2) = 2
            finding() = 5
            tear(1) = NOTHING
            finding() = 1
            """);
        Sentence.says(36, "(0 before any)", """
            finding() = 0
            later(-1) = BAD
            force(0) = NONE
            first(0, 0, 0) = STATE
            finding() = 0
            mean() = NOUGHT
            finding() = 4
            """);
    }

    private static void findings() {
        Sentence.says(37, "How often a FINDING (1 .. 5) was answered.", PAPERS, """
            findings(1) = 0
            findings(2) = 0
            findings(3) = 0
            findings(4) = 0
            findings(5) = 0
            tear(0)
            sheet(0, 1)
            2 * lay(0, -1, 0)
            3 * open(0, 1, 2)
            4 * mean()
            5 * sheet(0, -1)
            findings(1) = 1
            findings(2) = 2
            findings(3) = 3
            findings(4) = 4
            findings(5) = 5
            """);
        Sentence.says(37, "BAD.", """
            mean()
            findings(0) = BAD
            findings(6) = BAD
            findings(-1) = BAD
            findings(MIN) = BAD
            findings(MAX) = BAD
            findings(4) = 1
            """);
        Sentence.says(37, "An object is used for at most 512 calls after it has been made", """
            510 * mean()
            finding() = 4
            findings(4) = 510               # call 512
            """);
    }

    private static long mixed(long h, long... values) {
        for (long v : values) {
            h = 31 * h + v;
        }
        return h;
    }

    static long digestOfNew() {
        long h = mixed(17, new long[8 + 72]);
        return mixed(h, -1, -1, -1, -1);
    }

    private static void digestBegins() {
        Sentence.says(38, "h = 17;", "digest() = " + digestOfNew());
    }

    private static void digestOfAll() {
        long h = mixed(17, 100, 4, 3, 2, 0, 1, 4, 0);
        h = mixed(h, 0, 0, 3, 100, 50, 60, -9);
        h = mixed(h, 1, 1, 5, 100, -9, -9, -9);
        h = mixed(h, 2, 2, 9, 100, -9, -9, -9);
        h = mixed(h, 5, -1, -1, 2);
        long[] copies = new long[72];
        copies[1] = 3;
        copies[12] = 4;
        copies[71] = 9;
        h = mixed(h, copies);
        h = mixed(h, 0, -1, 3, 0, -56, 0, -1);
        String digest = "digest() = " + h;
        String run = """
            note(0, 0, 50)
            note(0, 1, 60)
            candidate(5)
            2 * candidate(0)
            candidate(2)
            withdraw(1)
            byelaw(0, 0, 0, 0, 0, 1)
            ballot(2, 1, 0) = 1
            stock(0, 1, 3)
            stock(1, 0, 4)
            stock(5, 11, 9)
            sheet(0, 0)
            sheet(2, 3)
            lay(2, 1, 200)
            sheet(3, 5)
            tear(3)
            """;
        Sentence.says(38, "then h = 31 h + v for each v: count() 0 to 7", PAPERS, run, digest);
        Sentence.says(38, "of each PAPER told() 0 to 6", PAPERS, run, "open(1, 0, 2)\nmark(1, 1) = 100", digest);
        Sentence.says(38, "of each CANDIDATE its PROPOSERS (bits; -1: it is missing)", PAPERS, run, "propose(0, 2) = 2", digest);
        Sentence.says(38, "copies() of each HOLDER and NUMBER", PAPERS, run, "whole() = NONE\nswaps(62) = 2", digest);
        Sentence.says(38, "of each SHEET its size (-1: missing), its bytes.", PAPERS, run, digest, "lay(2, 1, -56) = 944", digest);
        Sentence.says(38, "h = 17; then h = 31 h + v for each v", PAPERS, run, """
            post(0, 1, 1)
            medal(0, 1, 1)
            mean() = 10
            tear(1) = NOTHING
            """, digest);
    }

    private static void digestCounts() {
        long h = mixed(17, 30000, 1, 0, 0, 2, 3, 0, 0);
        h = mixed(h, new long[72]);
        h = mixed(h, -1, -1, -1, -1);
        Sentence.says(38, "count() 0 to 7", """
            later(30000)
            fellow()
            2 * statute(0, 0, true)
            3 * byelaw(0, 0, 0, 0, 0, 1)
            """, "digest() = " + h);
    }
}
