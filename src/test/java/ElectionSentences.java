/** Promises 16 to 23: byelaws, candidates, ballots and medals. */
final class ElectionSentences {
    /** Three fellows, and one who may be elected by any balls. */
    private static final String EASY = """
        3 * fellow()
        byelaw(0, 0, 0, 100, 0, 1)
        candidate(0)
        """;
    /** Fellow 0 has a paper that is PRINTED on day 0; fellow 1 has none. */
    private static final String PRINTED = """
        2 * fellow()
        paper(0, 0, 0, 0, 0)
        note(0, 0, 0)
        note(0, 1, 0)
        note(0, 2, 0)
        """;

    private ElectionSentences() {
    }

    static void all() {
        byelaw();
        byelawParts();
        byelawFull();
        candidate();
        candidateRefused();
        propose();
        withdraw();
        missing();
        ballot();
        ballotBars();
        ballotHangs();
        ballotBalls();
        ballotByelaw();
        ballotBad();
        ballotRefused();
        medal();
        award();
        awardGap();
        awardWithin();
        awardRefused();
        medals();
    }

    private static void byelaw() {
        Sentence.says(16, "A BYELAW from a day on: its number.", """
            byelaw(0, 0, 0, 0, 0, 1) = 0
            byelaw(30000, 500, 16, 100, 100, 100) = 1
            byelaw(-1, 0, 0, 0, 0, 1) = BAD
            byelaw(30001, 0, 0, 0, 0, 1) = BAD
            byelaw(MIN, 0, 0, 0, 0, 1) = BAD
            byelaw(MAX, 0, 0, 0, 0, 1) = BAD
            byelaw(0, 0, 0, 0, 0, 1) = 2
            count(5) = 3
            """);
        Sentence.says(16, "from a day on a certificate hangs h days (0 .. 500)", EASY, """
            byelaw(0, -1, 0, 0, 0, 1) = BAD
            byelaw(0, 501, 0, 0, 0, 1) = BAD
            byelaw(0, MIN, 0, 0, 0, 1) = BAD
            byelaw(0, MAX, 0, 0, 0, 1) = BAD
            byelaw(0, 500, 0, 0, 0, 1) = 1
            later(499)
            ballot(0, 1, 0) = 2
            later(1)
            ballot(0, 1, 0) = 1
            """);
        Sentence.says(16, "with p PROPOSERS (0 .. 16) at least", EASY, """
            byelaw(0, 0, -1, 0, 0, 1) = BAD
            byelaw(0, 0, 17, 0, 0, 1) = BAD
            byelaw(0, 0, MIN, 0, 0, 1) = BAD
            byelaw(0, 0, MAX, 0, 0, 1) = BAD
            byelaw(0, 0, 16, 0, 0, 1) = 1
            ballot(0, 1, 0) = 3
            byelaw(0, 0, 0, 0, 0, 1) = 2
            ballot(0, 1, 0) = 1
            """);
        Sentence.says(16, "b black balls (0 .. 100) at most", EASY, """
            byelaw(0, 0, 0, -1, 0, 1) = BAD
            byelaw(0, 0, 0, 101, 0, 1) = BAD
            byelaw(0, 0, 0, MIN, 0, 1) = BAD
            byelaw(0, 0, 0, MAX, 0, 1) = BAD
            byelaw(0, 0, 0, 0, 0, 1) = 1
            ballot(0, 1, 1) = 4
            byelaw(0, 0, 0, 100, 0, 1) = 2
            ballot(0, 1, 101) = 4
            ballot(0, 1, 100) = 1
            """);
    }

    private static void byelawParts() {
        Sentence.says(16, "BAD: also u not 0 .. l", """
            byelaw(0, 0, 0, 0, -1, 1) = BAD
            byelaw(0, 0, 0, 0, 2, 1) = BAD
            byelaw(0, 0, 0, 0, 100, 99) = BAD
            byelaw(0, 0, 0, 0, MIN, 100) = BAD
            byelaw(0, 0, 0, 0, MAX, 100) = BAD
            byelaw(0, 0, 0, 0, 0, 100) = 0
            byelaw(0, 0, 0, 0, 100, 100) = 1
            byelaw(0, 0, 0, 0, 1, 1) = 2
            """);
        Sentence.says(16, "l not 1 .. 100", """
            byelaw(0, 0, 0, 0, 0, 0) = BAD
            byelaw(0, 0, 0, 0, 0, -1) = BAD
            byelaw(0, 0, 0, 0, -1, -1) = BAD
            byelaw(0, 0, 0, 0, 0, 101) = BAD
            byelaw(0, 0, 0, 0, 101, 101) = BAD
            byelaw(0, 0, 0, 0, 0, MIN) = BAD
            byelaw(0, 0, 0, 0, 0, MAX) = BAD
            byelaw(0, 0, 0, 0, 0, 1) = 0
            byelaw(0, 0, 0, 0, 0, 100) = 1
            """);
    }

    private static void byelawFull() {
        Sentence.says(16, "FULL.", EASY, """
            10 * byelaw(0, 0, 0, 0, 0, 1)
            byelaw(0, 0, 0, 5, 0, 1) = 11
            byelaw(0, 0, 0, 9, 0, 1) = FULL
            ballot(0, 1, 6) = 4             # by that which was told last
            """);
        Sentence.says(16, "BYELAWS (12 at most)", """
            12 * statute(0, 0, true)        # STATUTES are counted apart
            12 * byelaw(0, 0, 0, 0, 0, 1)
            byelaw(0, 0, 0, 0, 0, 1) = FULL
            byelaw(0, 0, 0, 0, 0, 0) = BAD  # ahead of FULL
            byelaw(30001, 0, 0, 0, 0, 1) = BAD
            byelaw(0, 501, 0, 0, 0, 1) = BAD
            byelaw(0, 0, 17, 0, 0, 1) = BAD
            byelaw(0, 0, 0, 101, 0, 1) = BAD
            count(5) = 12
            """);
    }

    private static void candidate() {
        Sentence.says(17, "A CANDIDATE, hung TODAY", """
            byelaw(0, 10, 0, 0, 0, 1)
            later(5)
            candidate(0) = 0
            later(4)
            candidate(0) = 1
            later(5)
            ballot(0, 1, 0) = 2
            later(1)
            ballot(0, 1, 0) = 1
            ballot(1, 1, 0) = 2
            later(4)
            ballot(1, 1, 0) = 1
            """);
        Sentence.says(17, "with PROPOSERS (bits of FELLOWS): its number.", """
            candidate(1) = BAD              # there is no FELLOW
            candidate(0) = 0
            2 * fellow()
            candidate(3) = 1
            candidate(4) = BAD
            candidate(5) = BAD
            candidate(7) = BAD
            candidate(2) = 2
            propose(1, 0) = 2
            """);
    }

    private static void candidateRefused() {
        Sentence.says(17, "BAD", "16 * fellow()", """
            candidate(-1) = BAD
            candidate(MIN) = BAD
            candidate(MAX) = BAD
            candidate(65536) = BAD
            candidate(65535) = 0
            candidate(32768) = 1
            """);
        Sentence.says(17, "FULL.", """
            fellow()
            19 * candidate(0)
            candidate(1) = 19
            candidate(0) = FULL
            candidate(1) = FULL
            candidate(2) = BAD              # ahead of FULL
            """);
        Sentence.says(17, "CANDIDATES 0, 1, .. (20 at most)", """
            fellow()
            byelaw(0, 0, 0, 0, 0, 1)
            20 * candidate(1)
            withdraw(3)
            ballot(4, 1, 0) = 1
            candidate(1) = FULL             # those that are missing keep their numbers
            count(6) = 20
            withdraw(19) = 1
            withdraw(20) = BAD
            """);
    }

    private static void propose() {
        Sentence.says(18, "A FELLOW proposes a CANDIDATE, too: how many PROPOSERS it has.", """
            16 * fellow()
            candidate(2)
            candidate(0)
            propose(0, 0) = 2
            propose(0, 0) = 2               # it is one already
            propose(0, 1) = 2
            propose(0, 15) = 3
            propose(1, 15) = 1
            """);
        Sentence.says(18, "BAD", "3 * fellow()", """
            2 * candidate(1)
            propose(-1, 0) = BAD
            propose(2, 0) = BAD
            propose(MIN, 0) = BAD
            propose(MAX, 0) = BAD
            propose(1, 1) = 2
            """);
        Sentence.says(18, "PROPOSERS are FELLOWS", "3 * fellow()", """
            candidate(1)
            propose(0, -1) = BAD
            propose(0, 3) = BAD
            propose(0, 32) = BAD            # a shift by 32 is one by 0
            propose(0, MIN) = BAD
            propose(0, MAX) = BAD
            propose(0, 2) = 2
            """);
        Sentence.says(18, "NOTHING.", "3 * fellow()", """
            2 * candidate(1)
            withdraw(0)
            propose(0, 1) = NOTHING
            propose(0, 0) = NOTHING
            propose(0, 3) = BAD             # ahead of NOTHING
            propose(1, 1) = 2
            """);
    }

    private static void withdraw() {
        Sentence.says(19, "A CANDIDATE is WITHDRAWN: 1.", "fellow()", """
            3 * candidate(1)
            withdraw(1) = 1
            count(6) = 3
            candidate(0) = 3                # its number is not used again
            propose(0, 0) = 1
            propose(2, 0) = 1
            """);
        Sentence.says(19, "BAD", "fellow()", """
            withdraw(0) = BAD
            candidate(1)
            withdraw(-1) = BAD
            withdraw(1) = BAD
            withdraw(MIN) = BAD
            withdraw(MAX) = BAD
            withdraw(0) = 1
            """);
        Sentence.says(19, "NOTHING.", "fellow()", """
            2 * candidate(1)
            withdraw(0) = 1
            withdraw(0) = NOTHING
            withdraw(0) = NOTHING
            withdraw(1) = 1
            """);
    }

    private static void missing() {
        Sentence.says(19, "WITHDRAWN ones are missing.", EASY, """
            withdraw(0) = 1
            withdraw(0) = NOTHING
            propose(0, 0) = NOTHING
            ballot(0, 1, 0) = NOTHING
            """);
        Sentence.says(20, "1 ELECTED (a FELLOW now, the CANDIDATE goes)", EASY, """
            candidate(0)
            ballot(0, 1, 0) = 1
            count(1) = 4
            withdraw(0) = NOTHING
            propose(0, 0) = NOTHING
            ballot(0, 1, 0) = NOTHING
            propose(1, 3) = 1               # the new FELLOW can propose
            medals(0, 3) = 0
            count(6) = 2
            """);
        Sentence.says(20, "1 NOTHING (a CANDIDATE that is WITHDRAWN, a SHEET that is missing)", EASY, """
            findings(1) = 0
            tear(3) = -3
            finding() = 1
            mean() = NOUGHT
            withdraw(0) = 1
            ballot(0, 1, 0) = -3
            finding() = 1
            findings(1) = 2
            """);
    }

    private static void ballot() {
        Sentence.says(20, "the FELLOW's number by asked(), if it is 1.", EASY, """
            candidate(0)
            ballot(0, 0, 0) = 5
            asked() = 0
            ballot(0, 1, 0) = 1
            asked() = 3
            fellow() = 4
            ballot(1, 0, 101) = 4
            asked() = 3
            ballot(1, 1, 0) = 1
            asked() = 5
            """);
        Sentence.says(20, "A BALLOT TODAY with white and black balls (0 .. 1000 each): as told", EASY, """
            candidate(0)
            ballot(0, -1, 0) = BAD
            ballot(0, 1001, 0) = BAD
            ballot(0, MIN, 0) = BAD
            ballot(0, MAX, 0) = BAD
            ballot(0, 1, -1) = BAD
            ballot(0, 1, 1001) = BAD
            ballot(0, 1, MIN) = BAD
            ballot(0, 1, MAX) = BAD
            ballot(0, -1, 1) = BAD
            ballot(0, MAX, MAX) = BAD
            ballot(0, 1000, 1000) = 4
            ballot(0, 0, 1000) = 4
            ballot(0, 1000, 0) = 1
            ballot(1, 0, 1) = 1
            """);
    }

    private static void ballotBars() {
        String hung = """
            3 * fellow()
            byelaw(0, 5, 2, 1, 2, 3)
            later(1)
            candidate(1)
            """;
        Sentence.says(20, "or what bars, the first: 2 it has not hung so long", hung, """
            ballot(0, 0, 9) = 2             # ahead of all others
            later(4)
            ballot(0, 9, 0) = 2
            later(1)
            ballot(0, 9, 0) = 3
            """);
        Sentence.says(20, "3 PROPOSERS lack", hung, """
            later(5)
            ballot(0, 0, 9) = 3             # ahead of too many black ones
            ballot(0, 0, 0) = 3
            propose(0, 0)
            ballot(0, 9, 0) = 3
            propose(0, 2)
            ballot(0, 9, 0) = 1
            """);
        Sentence.says(20, "4 too many black ones", hung, """
            later(5)
            propose(0, 2)
            ballot(0, 0, 2) = 4             # ahead of too few white ones
            ballot(0, 1000, 2) = 4
            ballot(0, 1000, 1) = 1
            """);
        Sentence.says(20, "5 too few white ones", hung, """
            later(5)
            propose(0, 2)
            ballot(0, 0, 1) = 5
            ballot(0, 1, 1) = 5
            count(1) = 3
            ballot(0, 2, 1) = 1             # at the edge of all four
            asked() = 3
            """);
    }

    private static void ballotHangs() {
        Sentence.says(20, "2 it has not hung so long", EASY, """
            byelaw(30000, 500, 0, 0, 0, 1)
            later(29501)
            candidate(0)
            candidate(0)
            ballot(0, 1, 0) = 1             # none to hang for yet
            later(499)
            ballot(1, 1, 0) = 2
            """);
    }

    private static void ballotBalls() {
        Sentence.says(20, "of all balls at least u by l are white", """
            3 * candidate(0)
            byelaw(0, 0, 0, 100, 51, 100)
            ballot(0, 51, 50) = 5
            ballot(0, 51, 49) = 1
            byelaw(0, 0, 0, 100, 100, 100)
            ballot(1, 1000, 1) = 5
            ballot(1, 1000, 0) = 1
            byelaw(0, 0, 0, 100, 1, 100)
            ballot(2, 0, 1) = 5
            ballot(2, 1, 100) = 5
            ballot(2, 1, 99) = 1
            """);
        Sentence.says(20, "(no balls at all, too).", EASY, """
            ballot(0, 0, 0) = 5             # though 0 of all are enough
            ballot(0, 0, 100) = 1
            """);
    }

    private static void ballotByelaw() {
        Sentence.says(20, "(in force as STATUTES).", """
            candidate(0)
            byelaw(10, 0, 0, 100, 0, 1)
            byelaw(5, 0, 0, 0, 0, 1)
            byelaw(10, 0, 1, 100, 0, 1)
            later(9)
            ballot(0, 1, 1) = 4             # by that of day 5
            later(1)
            ballot(0, 1, 1) = 3             # by the last told of day 10
            byelaw(11, 0, 0, 0, 0, 1)
            byelaw(9, 0, 0, 100, 0, 1)
            ballot(0, 1, 1) = 3             # not that of day 11 yet, no more that of day 9
            later(1)
            ballot(0, 1, 1) = 4
            """);
    }

    private static void ballotBad() {
        Sentence.says(20, "BAD", EASY, """
            ballot(-1, 1, 0) = BAD
            ballot(1, 1, 0) = BAD
            ballot(MIN, 1, 0) = BAD
            ballot(MAX, 1, 0) = BAD
            ballot(0, 1, 0) = 1
            """);
    }

    private static void ballotRefused() {
        Sentence.says(20, "STATE: no BYELAW is in force", """
            fellow()
            2 * candidate(1)
            withdraw(1)
            ballot(0, 1, 0) = STATE
            ballot(1, 1, 0) = STATE         # ahead of NOTHING
            ballot(0, 1001, 0) = BAD        # ahead of STATE
            ballot(2, 1, 0) = BAD
            byelaw(1, 0, 0, 0, 0, 1)
            ballot(0, 1, 0) = STATE
            later(1)
            ballot(0, 1, 0) = 1
            """);
        Sentence.says(20, "FULL: there are 16 FELLOWS (behind STATE)", """
            16 * fellow()
            2 * candidate(1)
            withdraw(1)
            byelaw(1, 0, 0, 0, 0, 1)
            ballot(0, 1, 0) = STATE         # ahead of FULL
            later(1)
            ballot(0, 1, 0) = FULL
            ballot(0, 0, 0) = FULL          # ahead of what bars
            ballot(1, 1, 0) = FULL          # ahead of NOTHING
            ballot(2, 1, 0) = BAD
            ballot(0, 1, 1001) = BAD
            propose(0, 15) = 2              # it is still there
            """);
        Sentence.says(20, "FULL: there are 16 FELLOWS", """
            14 * fellow()
            byelaw(0, 0, 0, 0, 0, 1)
            3 * candidate(0)
            ballot(0, 1, 0) = 1
            ballot(1, 1, 0) = 1             # the 16th
            ballot(2, 1, 0) = FULL
            asked() = 15
            """);
        Sentence.says(20, "NOTHING.", EASY, """
            withdraw(0)
            ballot(0, 1, 0) = NOTHING
            ballot(0, 0, 0) = NOTHING       # ahead of what bars
            ballot(0, -1, 0) = BAD          # ahead of NOTHING
            """);
    }

    private static void medal() {
        Sentence.says(21, "GAP, WITHIN of a MEDAL: 1.", PRINTED, """
            medal(0, 10, 20) = 1
            medal(1, 0, 30000) = 1
            later(20)
            award(0, 0) = 1
            award(0, 0) = 2
            award(1, 0) = 1
            award(1, 0) = 1
            """);
        Sentence.says(21, "MEDALS 0 .. 3", "fellow()", """
            medal(-1, 0, 0) = BAD
            medal(4, 0, 0) = BAD
            medal(MIN, 0, 0) = BAD
            medal(MAX, 0, 0) = BAD
            medal(0, 0, 0) = 1
            medal(3, 0, 0) = 1
            """);
        Sentence.says(21, "BAD.", PRINTED, """
            medal(0, 5, 6)
            medal(0, -1, 0) = BAD
            medal(0, 30001, 0) = BAD
            medal(0, MIN, 0) = BAD
            medal(0, MAX, 0) = BAD
            medal(0, 0, -1) = BAD
            medal(0, 0, 30001) = BAD
            medal(0, 0, MIN) = BAD
            medal(0, 0, MAX) = BAD
            """);
        Sentence.says(21, "GAP, WITHIN (0 .. 30000 days;", PRINTED, """
            medal(0, 30000, 0) = 1
            award(0, 0) = 1
            later(29999)
            award(0, 0) = 2
            later(1)
            award(0, 0) = 3
            medal(0, 30000, 30000) = 1
            award(0, 0) = 1
            medal(0, 0, 30000) = 1
            award(0, 0) = 1
            """);
        Sentence.says(21, "0 and 30000 at first).", PRINTED, """
            later(30000)
            2 * award(0, 0) = 1
            2 * award(1, 0) = 1
            2 * award(2, 0) = 1
            2 * award(3, 0) = 1
            """);
    }

    private static void award() {
        Sentence.says(22, "An AWARD to a FELLOW: 1, or what bars", PRINTED, """
            medal(0, 10, 5)
            award(0, 0) = 1
            later(6)
            award(0, 0) = 2                 # ahead of 3
            later(4)
            award(0, 0) = 3
            count(7) = 1                    # what is barred is none
            medals(0, 0) = 1
            """);
        Sentence.says(22, "An AWARD of a MEDAL TODAY: as told.", PRINTED, """
            later(3)
            medal(2, 1, 30000)
            award(2, 0) = 1
            award(2, 0) = 2
            later(1)
            award(2, 0) = 1
            award(2, 1) = 3
            """);
    }

    private static void awardGap() {
        Sentence.says(22, "2 it had that MEDAL less than GAP days before TODAY", PRINTED, """
            medal(0, 60, 30000)
            award(0, 0) = 1                 # on day 0 it had it never
            later(59)
            award(0, 0) = 2
            award(1, 0) = 1                 # another MEDAL
            later(1)
            award(0, 0) = 1
            later(59)
            award(0, 0) = 2                 # the last time counts
            medal(0, 59, 30000)
            award(0, 0) = 1
            """);
        Sentence.says(22, "it had that MEDAL", PRINTED, """
            paper(0, 1, 0, 0, 0)
            note(1, 0, 0)
            note(1, 1, 0)
            note(1, 2, 0)
            medal(3, 30000, 30000)
            award(3, 0) = 1
            award(3, 1) = 1                 # another FELLOW
            award(3, 0) = 2
            """);
    }

    private static void awardWithin() {
        Sentence.says(22, "3 no PAPER by it was PRINTED (by its last NOTE) at most WITHIN days before TODAY", PRINTED, """
            medal(0, 0, 30)
            later(30)
            award(0, 0) = 1
            award(0, 1) = 3
            later(1)
            award(0, 0) = 3
            paper(1, 0, 0, 0, 0)
            note(1, 0, 31)
            note(1, 1, 31)
            award(0, 0) = 3                 # READ only
            note(1, 2, 31)
            award(0, 0) = 1                 # any of its PAPERS
            medal(0, 0, 0)
            award(0, 0) = 1                 # on the day itself
            """);
        Sentence.says(22, "3 no PAPER by it was PRINTED", PRINTED, """
            paper(0, 1, 0, 0, 0)
            award(0, 1) = 3                 # a PAPER without NOTES, however long WITHIN is
            note(1, 0, 0)
            note(1, 1, 0)
            award(0, 1) = 3
            note(1, 2, 0)
            award(0, 1) = 1
            """);
        Sentence.says(22, "(by its last NOTE)", PRINTED, """
            later(50)
            medal(0, 0, 30)
            award(0, 0) = 3
            note(0, 2, 20)
            award(0, 0) = 1
            note(0, 2, 19)
            award(0, 0) = 3
            note(0, 2, 50)
            award(0, 0) = 1
            """);
    }

    private static void awardRefused() {
        Sentence.says(22, "BAD", PRINTED, """
            award(-1, 0) = BAD
            award(4, 0) = BAD
            award(MIN, 0) = BAD
            award(MAX, 0) = BAD
            award(0, -1) = BAD
            award(0, 2) = BAD
            award(0, MIN) = BAD
            award(0, MAX) = BAD
            award(3, 0) = 1
            award(0, 1) = 3
            """);
        Sentence.says(22, "FULL: 60 AWARDS.", PRINTED, """
            20 * award(0, 0) = 1
            20 * award(1, 0) = 1
            19 * award(3, 0) = 1
            award(0, 1) = 3                 # barred ones do not count
            award(2, 0) = 1
            award(0, 0) = FULL
            award(2, 0) = FULL
            award(0, 1) = FULL              # ahead of what bars
            award(0, 2) = BAD               # ahead of FULL
            award(4, 0) = BAD
            count(7) = 60
            """);
    }

    private static void medals() {
        Sentence.says(23, "How often a FELLOW had a MEDAL.", PRINTED, """
            medals(1, 0) = 0
            2 * award(1, 0) = 1
            award(3, 0) = 1
            award(1, 1) = 3
            medals(1, 0) = 2
            medals(3, 0) = 1
            medals(0, 0) = 0
            medals(1, 1) = 0
            57 * award(1, 0) = 1
            medals(1, 0) = 59
            """);
        Sentence.says(23, "BAD.", PRINTED, """
            medals(-1, 0) = BAD
            medals(4, 0) = BAD
            medals(MIN, 0) = BAD
            medals(MAX, 0) = BAD
            medals(0, -1) = BAD
            medals(0, 2) = BAD
            medals(0, MIN) = BAD
            medals(0, MAX) = BAD
            medals(3, 1) = 0
            """);
    }
}
