/** The words of 'Terms' that hold for all calls: in which order a call is refused, and that it changes nothing then. */
final class TermSentences {
    private static final String CHANGES_NOTHING = "What is refused changes nothing but finding(), findings().";

    /** Day 120, with something of everything; NOUGHT is the latest FINDING, and asked() is not 0. */
    private static final String MUCH = """
        4 * fellow()
        post(0, 10, 30)
        post(5, 3, 3)
        later(100)
        mean()
        paper(0, 0, 3, 0, 0)
        paper(1, 1, 5, 0, 0)
        paper(2, 2, 9, 80, 0)
        paper(1, 3, 1, 0, 0)
        note(0, 0, 50)
        note(0, 1, 60)
        note(0, 2, 70)
        note(2, 0, 95)
        later(10)
        note(0, 2, 75)
        open(3, 0, 1)
        statute(0, 0, false)
        statute(50, 1, true)
        byelaw(0, 5, 1, 1, 2, 3)
        candidate(1)
        candidate(3)
        candidate(7)
        withdraw(1)
        later(10)
        ballot(2, 9, 1)
        medal(0, 30, 100)
        award(0, 0)
        """ + SetSentences.society("0 0 3 2") + """
        stock(1, 0, 2)
        stock(3, 1, 5)
        sheet(0, 5)
        lay(0, 2, 7)
        lay(0, 4, -9)
        sheet(2, 0)
        first(0, 0, 120)
        """;

    private TermSentences() {
    }

    static void all() {
        papersRefused();
        asksRefused();
        electionsRefused();
        setsRefused();
        findingTells();
        order();
        numbers();
    }

    private static void refused(int promise, String run) {
        Sentence.says(promise, CHANGES_NOTHING, MUCH, run);
    }

    private static void papersRefused() {
        refused(2, "later(-1) = BAD\nlater(29881) = BAD");
        refused(3, "11 * fellow()\nfellow() = FULL");
        refused(4, "post(0, 2, 1) = BAD\npost(0, 0, 501) = BAD\npost(6, 1, 2) = BAD");
        refused(5, """
            paper(2, 0, 1, 121, 0) = BAD
            paper(2, 0, 1, 0, 6) = BAD
            20 * paper(0, 1, 1, 0, 0)
            paper(0, 0, 1, 0, 0) = FULL
            """);
        refused(6, """
            note(0, 0, 121) = BAD
            note(0, 0, 61) = STATE
            note(0, 1, 76) = STATE
            note(1, 1, 120) = STATE
            note(2, 0, 111) = STATE
            95 * note(1, 0, 100)
            note(1, 0, 99) = FULL
            """);
        refused(7, """
            open(1, 1, 2) = BAD
            open(0, 1, 2) = UNLIKE
            open(2, 0, 1) = UNLIKE
            open(3, 0, 1) = STATE
            """);
        refused(11, """
            statute(0, 3, true) = BAD
            statute(30001, 0, true) = BAD
            10 * statute(30000, 0, true)
            statute(0, 2, true) = FULL
            """);
    }

    private static void asksRefused() {
        refused(8, "told(0, 7) = BAD\ntold(4, 0) = BAD");
        refused(9, "mark(0, 3) = BAD\nmark(0, 1) = UNLIKE\nmark(3, 2) = UNLIKE");
        refused(10, "known(0, 3, 0) = BAD\nknown(0, 0, 30001) = BAD");
        refused(12, "force(30001) = BAD");
        refused(13, "when(0, 2, 120, true) = BAD\nwhen(4, 0, 120, true) = BAD");
        refused(14, "first(16, 0, 120) = BAD\nfirst(1, 0, 30001) = BAD");
        Sentence.says(15, CHANGES_NOTHING, "fellow()\npaper(0, 0, 1, 0, 0)\nnote(0, 0, 0)\nmean() = NOUGHT");
        refused(35, "count(8) = BAD");
        refused(37, "findings(6) = BAD\nfindings(0) = BAD");
    }

    private static void electionsRefused() {
        refused(16, """
            byelaw(0, 0, 0, 0, 2, 1) = BAD
            byelaw(0, 0, 0, 0, 0, 0) = BAD
            11 * byelaw(30000, 0, 0, 0, 0, 1)
            byelaw(0, 0, 0, 100, 0, 1) = FULL
            """);
        refused(17, "candidate(32) = BAD\n17 * candidate(0)\ncandidate(1) = FULL");
        refused(18, "propose(0, 5) = BAD\npropose(1, 2) = NOTHING\npropose(2, 4) = NOTHING");
        refused(19, "withdraw(3) = BAD\nwithdraw(1) = NOTHING\nwithdraw(2) = NOTHING");
        refused(20, """
            ballot(0, 1001, 0) = BAD
            ballot(1, 9, 0) = NOTHING
            ballot(2, 9, 0) = NOTHING
            11 * fellow()
            ballot(0, 9, 0) = FULL
            """);
        Sentence.says(20, CHANGES_NOTHING, "fellow()\ncandidate(1)\nballot(0, 9, 0) = STATE");
        refused(21, "medal(0, 30001, 0) = BAD\nmedal(0, 0, 30001) = BAD\nmedal(4, 0, 0) = BAD");
        refused(22, "award(4, 0) = BAD\naward(0, 5) = BAD\n59 * award(1, 0)\naward(1, 0) = FULL");
        refused(23, "medals(4, 0) = BAD\nmedals(0, 5) = BAD");
    }

    private static void setsRefused() {
        refused(24, "stock(0, 0, 10) = BAD\nstock(0, 12, 5) = BAD\nstock(6, 0, 5) = BAD");
        refused(25, "copies(6, 0) = BAD\ncopies(0, 12) = BAD");
        refused(26, "sheet(0, 13) = BAD\nsheet(0, -1) = SIZE\nsheet(1, -1) = SIZE");
        refused(27, "lay(4, 0, 1) = BAD\nlay(1, 0, 1) = NOTHING\nlay(0, 5, 1) = BEYOND\nlay(2, 0, 1) = BEYOND");
        refused(28, "tear(4) = BAD\ntear(1) = NOTHING");
        refused(29, """
            copy(0, 0, 4, 0, 1) = BAD
            copy(0, 2, 1, 0, 1) = NOTHING
            copy(0, 2, 0, 3, 3) = BEYOND
            copy(0, 3, 0, 2, 3) = BEYOND
            copy(0, 2, 0, 0, -1) = BEYOND
            """);
        refused(30, "fill(6, 0) = BAD\nfill(0, 4) = BAD\nfill(0, 1) = NOTHING");
        refused(32, "swaps(1) = BAD\nswaps(64) = BAD");
    }

    private static void findingTells() {
        Sentence.says(36, "FINDING -3 (finding() tells which)", MUCH, """
            finding() = 4
            tear(1) = -3
            finding() = 1
            lay(0, 5, 0) = -3
            finding() = 2
            mark(0, 1) = -3
            finding() = 3
            sheet(0, -1) = -3
            finding() = 5
            """);
    }

    private static void order() {
        Sentence.says(20, "STATE -4 (not now), FINDING -3 (finding() tells which), unless a call says so otherwise.", """
            16 * fellow()
            candidate(1)
            withdraw(0)
            ballot(0, 1, 1001) = BAD        # it is NOTHING, STATE and FULL, too
            ballot(0, 1, 0) = STATE         # it is NOTHING and FULL, too
            byelaw(0, 0, 0, 0, 0, 1)
            ballot(0, 1, 0) = FULL          # it is NOTHING, too
            """);
        Sentence.says(29, "BAD -1 (a number that is none, or not as told)", """
            copy(4, -1, 0, -1, -1) = BAD    # it is NOTHING and BEYOND, too
            copy(0, -1, 1, -1, -1) = NOTHING
            """);
    }

    private static void numbers() {
        Sentence.says(14, "Sets are told by bits.", """
            fellow()
            statute(0, 0, false)
            paper(2, 0, 32769, 0, 0)
            paper(2, 0, 1, 0, 0)
            told(0, 2) = 32769
            first(0, 0, 0) = 2
            asked() = 3
            first(15, 0, 0) = 1
            asked() = 1
            """);
        Due.says(12, "NONE -9.");
        Due.is("BAD", SocietyBook.BAD, -1);
        Due.is("FULL", SocietyBook.FULL, -2);
        Due.is("FINDING", SocietyBook.FINDING, -3);
        Due.is("STATE", SocietyBook.STATE, -4);
        Due.is("NONE", SocietyBook.NONE, -9);
    }
}
