/** Promises 11 to 15: statutes, when a paper is proved, who was first, and the mean. */
final class PrioritySentences {
    private static final String PAPERS = PaperSentences.PAPERS;

    private PrioritySentences() {
    }

    static void all() {
        statute();
        statuteFull();
        force();
        forceRefused();
        when();
        whenSealed();
        whenNone();
        whenBad();
        first();
        firstOfSpans();
        firstAsked();
        firstRefused();
        mean();
        meanNought();
    }

    private static void statute() {
        Sentence.says(11, "A STATUTE from a day on: its number.", """
            statute(0, 0, false) = 0
            statute(30000, 2, true) = 1
            statute(0, 1, true) = 2
            count(4) = 3
            """);
        Sentence.says(11, "BAD: what", """
            statute(0, -1, true) = BAD
            statute(0, 3, false) = BAD
            statute(0, MIN, true) = BAD
            statute(0, MAX, false) = BAD
            statute(0, 0, true) = 0
            statute(0, 2, true) = 1
            """);
        Sentence.says(11, "from a day on what counts is that a PAPER was RECEIVED, READ or PRINTED (0, 1, 2)", """
            statute(-1, 0, true) = BAD
            statute(30001, 0, true) = BAD
            statute(MIN, 0, true) = BAD
            statute(MAX, 0, true) = BAD
            statute(0, 0, true) = 0
            statute(30000, 0, true) = 1
            force(29999) = 0
            force(30000) = 1
            """);
    }

    private static void statuteFull() {
        Sentence.says(11, "FULL.", """
            11 * statute(5, 0, true)
            statute(5, 1, false) = 11
            statute(9, 2, true) = FULL
            force(30000) = 11
            """);
        Sentence.says(11, "STATUTES (12 at most)", """
            12 * byelaw(0, 0, 0, 0, 0, 1)
            12 * statute(5, 0, true)    # BYELAWS are counted apart
            count(4) = 12
            statute(5, 0, true) = FULL
            statute(5, 3, true) = BAD   # ahead of FULL
            statute(30001, 0, true) = BAD
            count(4) = 12
            """);
    }

    private static void force() {
        Sentence.says(12, "In force on a day is that with the latest day not after it", """
            statute(50, 0, false)
            statute(20, 1, false)
            statute(30, 2, false)
            force(19) = NONE
            force(20) = 1
            force(29) = 1
            force(30) = 2               # not the last told, but the latest day
            force(49) = 2
            force(50) = 0
            force(30000) = 0
            """);
        Sentence.says(12, "of alike ones the last told.", """
            statute(50, 0, false)
            statute(50, 1, false)
            statute(20, 1, false)
            force(50) = 1
            statute(50, 2, false)
            force(50) = 3
            force(30000) = 3
            force(49) = 2
            statute(20, 0, false)
            force(49) = 4
            """);
        Sentence.says(12, "The STATUTE in force on a day", """
            later(60)
            statute(0, 0, true)
            statute(61, 1, true)
            force(0) = 0
            force(60) = 0
            force(61) = 1               # TODAY is not looked at
            """);
    }

    private static void forceRefused() {
        Sentence.says(12, "NONE", """
            force(0) = NONE
            force(30000) = NONE
            statute(1, 0, true)
            force(0) = NONE
            force(1) = 0
            """);
        Sentence.says(12, "BAD.", """
            statute(0, 0, true)
            force(-1) = BAD
            force(30001) = BAD
            force(MIN) = BAD
            force(MAX) = BAD
            force(0) = 0
            force(30000) = 0
            """);
    }

    private static void when() {
        Sentence.says(13, "the earliest day (late: the latest)", PAPERS, """
            statute(0, 0, false)
            when(2, 0, 100, false) = 90
            when(2, 0, 100, true) = 110
            note(2, 0, 95)
            when(2, 0, 100, false) = 95
            when(2, 0, 100, true) = 95
            """);
        Sentence.says(13, "else what the last NOTE tells, that was known on k, of what counts", PAPERS, """
            statute(0, 0, false)
            statute(0, 1, false)
            statute(0, 2, true)
            later(20)
            note(2, 0, 95)
            note(2, 1, 97)
            note(2, 2, 99)
            later(1)
            note(2, 1, 98)
            note(2, 0, 90)
            when(2, 0, 119, true) = 110     # the SPAN still
            when(2, 0, 120, true) = 95
            when(2, 0, 121, true) = 90
            when(2, 1, 119, true) = NONE
            when(2, 1, 120, false) = 97
            when(2, 1, 121, false) = 98
            when(2, 2, 120, true) = 99
            """);
        Sentence.says(13, "if RECEIVED counts, the SPAN of a LETTER that was told on k or before", PAPERS, """
            statute(0, 0, true)
            statute(0, 1, true)
            statute(0, 2, true)
            when(2, 0, 99, false) = NONE
            when(2, 0, 80, true) = NONE     # SENT by then, but not told
            when(2, 0, 100, false) = 90
            when(2, 0, 30000, true) = 110
            when(2, 1, 100, false) = NONE
            when(2, 2, 100, true) = NONE
            when(0, 0, 100, false) = NONE   # a PAPER has no SPAN
            when(1, 0, 100, true) = NONE
            """);
        Sentence.says(13, "the SPAN of a LETTER", """
            fellow()
            statute(0, 0, false)
            post(0, 500, 500)
            later(30000)
            paper(2, 0, 1, 30000, 0)
            when(0, 0, 30000, false) = 30500
            when(0, 0, 30000, true) = 30500
            """);
    }

    private static void whenSealed() {
        Sentence.says(13, "a SEALED one that was OPENED on k or before", PAPERS, """
            statute(0, 2, true)
            statute(0, 0, true)
            later(20)
            note(1, 0, 115)
            later(20)
            open(1, 0, 2)
            when(1, 0, 139, false) = NONE
            when(1, 1, 139, false) = 115    # the NOTE, while it is not OPENED
            when(1, 0, 140, false) = 100
            when(1, 0, 140, true) = 100
            when(1, 1, 140, true) = 100     # ahead of the NOTE
            when(1, 0, 30000, true) = 100
            """);
        Sentence.says(13, "if the STATUTE lets it: the day on which it was deposited", PAPERS, """
            statute(0, 0, false)
            statute(0, 2, false)
            statute(0, 2, true)
            open(1, 0, 2)
            when(1, 0, 100, false) = NONE
            note(1, 0, 60)
            when(1, 0, 100, false) = 60
            when(1, 1, 100, false) = NONE
            when(1, 2, 100, false) = 100
            """);
        Sentence.says(13, "whether SEALED ones count from the day on which they were deposited, if they are OPENED", """
            3 * fellow()
            statute(0, 0, true)
            paper(1, 0, 1, 0, 0)
            when(0, 0, 0, false) = NONE
            open(0, 1, 2)
            when(0, 0, 0, false) = 0        # all on day 0
            when(0, 0, 0, true) = 0
            """);
    }

    private static void whenNone() {
        Sentence.says(13, "NONE: it is not.", PAPERS, """
            statute(0, 0, true)
            statute(0, 1, true)
            when(0, 0, 100, false) = NONE
            when(0, 0, 100, true) = NONE
            note(0, 0, 50)
            when(0, 0, 99, false) = NONE
            when(0, 0, 100, false) = 50
            when(0, 1, 100, false) = NONE
            """);
        Sentence.says(13, "else it is not.", PAPERS, """
            statute(0, 1, true)
            note(1, 0, 50)
            note(2, 0, 90)
            when(1, 0, 100, false) = NONE   # RECEIVED, but READ counts
            when(2, 0, 100, true) = NONE
            """);
    }

    private static void whenBad() {
        Sentence.says(13, "BAD", PAPERS, "statute(0, 0, true)", """
            when(-1, 0, 100, true) = BAD
            when(3, 0, 100, true) = BAD
            when(MIN, 0, 100, true) = BAD
            when(MAX, 0, 100, true) = BAD
            when(2, 0, 100, true) = 110
            """);
        Sentence.says(13, "by a STATUTE", PAPERS, """
            when(2, 0, 100, true) = BAD
            2 * statute(0, 0, true)
            when(2, -1, 100, true) = BAD
            when(2, 2, 100, true) = BAD
            when(2, MIN, 100, true) = BAD
            when(2, MAX, 100, true) = BAD
            when(2, 1, 100, true) = 110
            """);
        Sentence.says(13, "as known on day k", PAPERS, "statute(0, 0, true)", """
            when(2, 0, -1, true) = BAD
            when(2, 0, 30001, false) = BAD
            when(2, 0, MIN, true) = BAD
            when(2, 0, MAX, false) = BAD
            when(2, 0, 0, true) = NONE
            when(2, 0, 30000, true) = 110
            """);
    }

    private static void first() {
        Sentence.says(14, "FIRST with a CLAIM by the STATUTE in force on a day, as known on day k: how many", PAPERS, """
            statute(10, 0, false)
            statute(20, 1, true)
            first(0, 10, 100) = 1
            note(0, 0, 90)
            note(1, 0, 90)
            first(0, 10, 100) = 3
            first(0, 19, 100) = 3
            first(1, 10, 100) = 1
            first(1, 10, 99) = 0            # not known then
            first(0, 20, 100) = 0           # READ counts from day 20 on
            open(1, 0, 2)
            first(0, 20, 100) = 1
            first(2, 30000, 30000) = 1
            """);
        Sentence.says(14, "(0: no PAPER is proved with it)", PAPERS, """
            statute(0, 0, false)
            first(0, 0, 99) = 0
            first(0, 0, 100) = 1
            first(1, 0, 100) = 0            # claimed, but not proved
            first(15, 0, 100) = 0           # not claimed
            asked() = 0
            """);
    }

    private static void firstOfSpans() {
        String letters = """
            fellow()
            later(100)
            statute(0, 0, false)
            post(0, 0, 10)
            post(1, 5, 30)
            post(2, 11, 12)
            paper(2, 0, 1, 50, 0)
            paper(2, 0, 1, 50, 1)
            paper(2, 0, 1, 50, 2)
            paper(0, 0, 1, 0, 0)
            """;
        Sentence.says(14, "those of which the earliest day is not after the least of all latest days", letters, """
            first(0, 0, 100) = 2
            asked() = 3
            note(3, 0, 60)                  # the least latest day itself
            first(0, 0, 100) = 3
            asked() = 11
            note(3, 0, 61)                  # a day after it
            first(0, 0, 100) = 2
            asked() = 3
            note(3, 0, 52)                  # now it tells the least latest day
            first(0, 0, 100) = 2
            asked() = 9
            note(3, 0, 49)                  # ahead of all
            first(0, 0, 100) = 1
            asked() = 8
            """);
        Sentence.says(14, "FIRST with a CLAIM are of all PAPERS that are proved with it", letters, """
            paper(0, 0, 2, 0, 0)
            note(4, 0, 1)                   # earlier, with another CLAIM
            first(0, 0, 100) = 2
            asked() = 3
            first(1, 0, 100) = 1
            asked() = 16
            """);
        Sentence.says(14, "those of which the earliest day is not after", """
            fellow()
            statute(0, 0, false)
            post(0, 500, 500)
            later(30000)
            24 * paper(2, 0, 32768, 30000, 0)
            first(15, 0, 30000) = 24        # beyond the last day, all alike
            asked() = 16777215
            first(15, 0, 29999) = 0
            """);
    }

    private static void firstAsked() {
        Sentence.says(14, "these by asked().", PAPERS, """
            statute(0, 0, false)
            asked() = 0
            first(0, 0, 100) = 1
            asked() = 4
            note(1, 0, 95)
            first(0, 0, 100) = 2
            asked() = 6
            first(0, 0, 99) = 0
            asked() = 0
            """);
    }

    private static void firstRefused() {
        Sentence.says(14, "BAD", PAPERS, "statute(0, 0, true)", """
            first(-1, 0, 100) = BAD
            first(16, 0, 100) = BAD
            first(MIN, 0, 100) = BAD
            first(MAX, 0, 100) = BAD
            first(32, 0, 100) = BAD         # a shift by 32 is one by 0
            first(0, 0, 100) = 1
            first(15, 0, 100) = 0
            """);
        Sentence.says(14, "in force on a day", PAPERS, "statute(0, 0, true)", """
            first(0, -1, 100) = BAD
            first(0, 30001, 100) = BAD
            first(0, MIN, 100) = BAD
            first(0, MAX, 100) = BAD
            first(0, 30000, 100) = 1
            """);
        Sentence.says(14, "as known on day k", PAPERS, "statute(0, 0, true)", """
            first(0, 0, -1) = BAD
            first(0, 0, 30001) = BAD
            first(0, 0, MIN) = BAD
            first(0, 0, MAX) = BAD
            first(0, 0, 0) = 0
            first(0, 0, 30000) = 1
            """);
        Sentence.says(14, "STATE: none is in force.", PAPERS, """
            first(0, 30000, 100) = STATE
            statute(10, 0, false)
            first(0, 9, 100) = STATE
            first(0, 10, 100) = 1
            first(0, 9, 100) = STATE        # asked() stays
            asked() = 4
            first(16, 9, 100) = BAD         # ahead of STATE
            first(0, 9, 30001) = BAD
            """);
    }

    private static void mean() {
        Sentence.says(15, "The mean of days between RECEIVED and READ over all PAPERS that have both", PAPERS, """
            note(0, 0, 10)
            note(0, 1, 20)
            mean() = 10
            note(1, 0, 10)
            mean() = 10                     # one without READ
            note(1, 1, 40)
            mean() = 20
            note(2, 0, 90)
            note(2, 1, 90)
            mean() = 13
            """);
        Sentence.says(15, "(by their last NOTES)", PAPERS, """
            note(0, 0, 10)
            note(0, 1, 20)
            note(0, 1, 30)
            mean() = 20
            note(0, 0, 25)
            mean() = 5
            """);
        Sentence.says(15, "cut.", PAPERS, """
            note(0, 0, 10)
            note(0, 1, 11)
            note(1, 0, 10)
            note(1, 1, 10)
            mean() = 0                      # 1 by 2
            note(0, 1, 13)
            mean() = 1                      # 3 by 2
            note(2, 0, 90)
            note(2, 1, 92)
            mean() = 1                      # 5 by 3
            """);
    }

    private static void meanNought() {
        Sentence.says(15, "NOUGHT.", PAPERS, """
            mean() = NOUGHT
            note(0, 0, 10)
            mean() = NOUGHT
            note(1, 0, 20)
            mean() = NOUGHT
            note(0, 1, 10)
            mean() = 0                      # none between, but shared among one
            """);
        Sentence.says(15, "4 NOUGHT (shared among none)", """
            findings(4) = 0
            mean() = -3
            finding() = 4
            mean() = -3
            findings(4) = 2
            """);
    }
}
