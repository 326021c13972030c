/** Promises 16 to 23: byelaws, candidates, ballots and medals. */
public final class ElectionsTest {
    private static final int BAD = SocietyBook.BAD, FULL = SocietyBook.FULL, FINDING = SocietyBook.FINDING;
    private static final int STATE = SocietyBook.STATE;

    public static void main(String[] args) {
        p16Byelaw();
        p17Candidate();
        p18Propose();
        p19Withdraw();
        p20BallotBars();
        p20BallotElects();
        p20BallotRefused();
        p20BallotByTheByelawInForce();
        p21Medal();
        p22Award();
        p22AwardFull();
        p23Medals();
        Due.end("ElectionsTest");
    }

    private static void p16Byelaw() {
        SocietyBook b = new SocietyBook();
        Due.is("16: day -1", b.byelaw(-1, 0, 0, 0, 0, 1), BAD);
        Due.is("16: day 30001", b.byelaw(30001, 0, 0, 0, 0, 1), BAD);
        Due.is("16: h -1", b.byelaw(0, -1, 0, 0, 0, 1), BAD);
        Due.is("16: h 501", b.byelaw(0, 501, 0, 0, 0, 1), BAD);
        Due.is("16: p -1", b.byelaw(0, 0, -1, 0, 0, 1), BAD);
        Due.is("16: p 17", b.byelaw(0, 0, 17, 0, 0, 1), BAD);
        Due.is("16: b -1", b.byelaw(0, 0, 0, -1, 0, 1), BAD);
        Due.is("16: b 101", b.byelaw(0, 0, 0, 101, 0, 1), BAD);
        Due.is("16: u -1", b.byelaw(0, 0, 0, 0, -1, 1), BAD);
        Due.is("16: u above l", b.byelaw(0, 0, 0, 0, 3, 2), BAD);
        Due.is("16: l 0", b.byelaw(0, 0, 0, 0, 0, 0), BAD);
        Due.is("16: l 101", b.byelaw(0, 0, 0, 0, 0, 101), BAD);
        Due.is("16: all the most", b.byelaw(30000, 500, 16, 100, 100, 100), 0);
        for (int i = 1; i < 12; i++) {
            Due.is("16: byelaw", b.byelaw(0, 0, 0, 0, 0, 1), i);
        }
        Due.is("16: 13th", b.byelaw(0, 0, 0, 0, 0, 1), FULL);
        Due.is("16: BAD ahead of FULL", b.byelaw(0, 0, 0, 0, 0, 0), BAD);
        Due.is("16: count(5)", b.count(5), 12);
    }

    private static void p17Candidate() {
        SocietyBook b = new SocietyBook();
        Due.is("17: no fellows", b.candidate(1), BAD);
        Due.is("17: without proposers", b.candidate(0), 0);
        b.fellow();
        b.fellow();
        Due.is("17: all fellows", b.candidate(3), 1);
        Due.is("17: one too many", b.candidate(4), BAD);
        Due.is("17: -1", b.candidate(-1), BAD);
        Due.is("17: the lowest number", b.candidate(Integer.MIN_VALUE), BAD);
        b.withdraw(0);
        for (int i = 2; i < 20; i++) {
            Due.is("17: candidate", b.candidate(2), i);
        }
        Due.is("17: 21st, though one is missing", b.candidate(2), FULL);
        Due.is("17: BAD ahead of FULL", b.candidate(4), BAD);
        Due.is("17: count(6)", b.count(6), 20);
        Due.is("17: there is no candidate 20", b.withdraw(20), BAD);
        SocietyBook c = Books.withFellows(16);
        Due.is("17: sixteen proposers", c.candidate(65535), 0);
        Due.is("17: a 17th", c.candidate(65536), BAD);
    }

    private static void p18Propose() {
        SocietyBook b = Books.withFellows(3);
        b.candidate(2);
        Due.is("18: another", b.propose(0, 0), 2);
        Due.is("18: the same again", b.propose(0, 0), 2);
        Due.is("18: a third", b.propose(0, 2), 3);
        Due.is("18: no fellow", b.propose(0, 3), BAD);
        Due.is("18: fellow -1", b.propose(0, -1), BAD);
        Due.is("18: no candidate", b.propose(1, 0), BAD);
        Due.is("18: candidate -1", b.propose(-1, 0), BAD);
        b.withdraw(0);
        Due.is("18: withdrawn", b.propose(0, 0), FINDING);
        Due.is("18: NOTHING", b.finding(), 1);
        Due.is("18: BAD ahead of NOTHING", b.propose(0, 3), BAD);
        Due.is("18: findings(1)", b.findings(1), 1);
    }

    private static void p19Withdraw() {
        SocietyBook b = Books.withFellows(1);
        b.candidate(1);
        Due.is("19: no candidate", b.withdraw(1), BAD);
        Due.is("19: candidate -1", b.withdraw(-1), BAD);
        Due.is("19: withdrawn", b.withdraw(0), 1);
        Due.is("19: again", b.withdraw(0), FINDING);
        Due.is("19: NOTHING", b.finding(), 1);
        Due.is("19: the next number", b.candidate(1), 1);
    }

    private static void p20BallotBars() {
        SocietyBook b = Books.withFellows(3);
        b.byelaw(0, 5, 2, 1, 2, 3);
        b.later(1);
        b.candidate(1);
        b.later(4);
        Due.is("20: hung too short, ahead of all", b.ballot(0, 0, 9), 2);
        b.later(1);
        Due.is("20: proposers lack", b.ballot(0, 0, 9), 3);
        b.propose(0, 2);
        Due.is("20: too many black", b.ballot(0, 0, 2), 4);
        Due.is("20: too few white", b.ballot(0, 1, 1), 5);
        Due.is("20: none at all", b.ballot(0, 0, 0), 5);
        Due.is("20: of all balls", byWhiteParts(51, 100).ballot(0, 51, 50), 5);
        Due.is("20: of all balls", byWhiteParts(51, 100).ballot(0, 51, 49), 1);
        Due.is("20: all must be white", byWhiteParts(100, 100).ballot(0, 1000, 1), 5);
        Due.is("20: all are white", byWhiteParts(100, 100).ballot(0, 1000, 0), 1);
        Due.is("20: asked()", b.asked(), 0);
        Due.is("20: count(1)", b.count(1), 3);
        Due.is("20: at the edge of all", b.ballot(0, 2, 1), 1);
        Due.is("20: asked()", b.asked(), 3);
    }

    private static SocietyBook byWhiteParts(int u, int l) {
        SocietyBook b = new SocietyBook();
        b.byelaw(0, 0, 0, 100, u, l);
        b.candidate(0);
        return b;
    }

    private static void p20BallotElects() {
        SocietyBook b = Books.withFellows(2);
        b.byelaw(0, 0, 0, 100, 0, 1);
        b.candidate(3);
        b.candidate(1);
        Due.is("20: black alone, if none need be white", b.ballot(1, 0, 100), 1);
        Due.is("20: asked()", b.asked(), 2);
        Due.is("20: count(1)", b.count(1), 3);
        Due.is("20: gone", b.ballot(1, 5, 0), FINDING);
        Due.is("20: NOTHING", b.finding(), 1);
        Due.is("20: gone for propose", b.propose(1, 0), FINDING);
        Due.is("20: gone for withdraw", b.withdraw(1), FINDING);
        Due.is("20: it is a fellow", b.propose(0, 2), 3);
        Due.is("20: no balls", b.ballot(0, 0, 0), 5);
        Due.is("20: the most balls", b.ballot(0, 1000, 100), 1);
        Due.is("20: asked()", b.asked(), 3);
        Due.is("20: the next", b.fellow(), 4);
    }

    private static void p20BallotRefused() {
        SocietyBook b = Books.withFellows(15);
        b.candidate(1);
        b.candidate(1);
        b.withdraw(1);
        Due.is("20: no byelaw", b.ballot(0, 1, 0), STATE);
        Due.is("20: STATE ahead of NOTHING", b.ballot(1, 1, 0), STATE);
        Due.is("20: BAD ahead of STATE", b.ballot(2, 1, 0), BAD);
        b.byelaw(0, 0, 0, 0, 1, 1);
        Due.is("20: candidate -1", b.ballot(-1, 1, 0), BAD);
        Due.is("20: white -1", b.ballot(0, -1, 0), BAD);
        Due.is("20: white 1001", b.ballot(0, 1001, 0), BAD);
        Due.is("20: black -1", b.ballot(0, 1, -1), BAD);
        Due.is("20: black 1001", b.ballot(0, 1, 1001), BAD);
        Due.is("20: 1000 black ones are told", b.ballot(0, 1, 1000), 4);
        Due.is("20: NOTHING", b.ballot(1, 1, 0), FINDING);
        b.fellow();
        Due.is("20: sixteen fellows", b.ballot(0, 1, 0), FULL);
        Due.is("20: FULL ahead of NOTHING", b.ballot(1, 1, 0), FULL);
        Due.is("20: findings(1)", b.findings(1), 1);
        SocietyBook c = Books.withFellows(16);
        c.candidate(1);
        c.byelaw(1, 0, 0, 0, 0, 1);
        Due.is("20: STATE ahead of FULL", c.ballot(0, 1, 0), STATE);
    }

    private static void p20BallotByTheByelawInForce() {
        SocietyBook b = Books.withFellows(1);
        b.candidate(0);
        b.byelaw(10, 0, 0, 100, 0, 1);
        b.byelaw(5, 0, 0, 0, 0, 1);
        b.byelaw(10, 0, 1, 100, 0, 1);
        Due.is("20: day 0", b.ballot(0, 1, 1), STATE);
        b.later(9);
        Due.is("20: the byelaw of day 5", b.ballot(0, 1, 1), 4);
        b.later(1);
        Due.is("20: of alike ones the last told", b.ballot(0, 1, 1), 3);
        b.byelaw(11, 0, 0, 0, 0, 1);
        Due.is("20: not yet that of day 11", b.ballot(0, 1, 1), 3);
        b.later(1);
        Due.is("20: that of day 11", b.ballot(0, 1, 1), 4);
    }

    private static void p21Medal() {
        SocietyBook b = Books.withFellows(1);
        Due.is("21: medal 4", b.medal(4, 0, 0), BAD);
        Due.is("21: medal -1", b.medal(-1, 0, 0), BAD);
        Due.is("21: gap -1", b.medal(0, -1, 0), BAD);
        Due.is("21: gap 30001", b.medal(0, 30001, 0), BAD);
        Due.is("21: within -1", b.medal(0, 0, -1), BAD);
        Due.is("21: within 30001", b.medal(0, 0, 30001), BAD);
        b.paper(0, 0, 0, 0, 0);
        Books.print(b, 0, 0);
        b.later(30000);
        Due.is("21: gap 0, within 30000 at first", b.award(3, 0), 1);
        Due.is("21: once more the same day", b.award(3, 0), 1);
        Due.is("21: the most", b.medal(3, 30000, 30000), 1);
        Due.is("21: gap", b.award(3, 0), 2);
        Due.is("21: the least", b.medal(3, 0, 0), 1);
        Due.is("21: within", b.award(3, 0), 3);
        Due.is("21: of that medal only", b.award(2, 0), 1);
    }

    private static void p22Award() {
        SocietyBook b = Books.withFellows(2);
        b.medal(0, 60, 30);
        b.later(50);
        Due.is("22: no gap ahead of the first award", b.award(0, 0), 3);
        b.medal(0, 10, 30);
        Due.is("22: no paper", b.award(0, 0), 3);
        b.paper(0, 0, 0, 0, 0);
        b.note(0, 0, 20);
        b.note(0, 1, 20);
        Due.is("22: not printed", b.award(0, 0), 3);
        b.note(0, 2, 20);
        Due.is("22: printed 30 days ago", b.award(0, 0), 1);
        Due.is("22: by another", b.award(0, 1), 3);
        b.later(1);
        Due.is("22: 2 ahead of 3", b.award(0, 0), 2);
        b.later(8);
        Due.is("22: 9 days", b.award(0, 0), 2);
        b.later(1);
        Due.is("22: 10 days, but printed long ago", b.award(0, 0), 3);
        b.note(0, 2, 60);
        Due.is("22: by the last note", b.award(0, 0), 1);
        Due.is("22: barred ones leave the day", b.award(0, 0), 2);
        b.note(0, 2, 20);
        b.later(10);
        Due.is("22: put right again", b.award(0, 0), 3);
        Due.is("22: medal 4", b.award(4, 0), BAD);
        Due.is("22: medal -1", b.award(-1, 0), BAD);
        Due.is("22: fellow 2", b.award(0, 2), BAD);
        Due.is("22: fellow -1", b.award(0, -1), BAD);
        Due.is("22: count(7)", b.count(7), 2);
        b.paper(0, 0, 0, 0, 0);
        Books.print(b, 1, 70);
        Due.is("22: any of its papers", b.award(0, 0), 1);
    }

    private static void p22AwardFull() {
        SocietyBook b = Books.withFellows(2);
        b.paper(0, 0, 0, 0, 0);
        Books.print(b, 0, 0);
        for (int i = 0; i < 60; i++) {
            Due.is("22: award", b.award(i % 4, 0), 1);
        }
        Due.is("22: 61st", b.award(0, 0), FULL);
        Due.is("22: FULL ahead of what bars", b.award(0, 1), FULL);
        Due.is("22: BAD ahead of FULL", b.award(0, 2), BAD);
        Due.is("22: count(7)", b.count(7), 60);
    }

    private static void p23Medals() {
        SocietyBook b = Books.withFellows(3);
        b.paper(0, 0, 0, 0, 0);
        b.paper(1, 2, 0, 0, 0);
        Books.print(b, 0, 0);
        Books.print(b, 1, 0);
        b.award(1, 0);
        b.award(1, 0);
        b.award(1, 2);
        b.award(3, 2);
        Due.is("23: twice", b.medals(1, 0), 2);
        Due.is("23: another fellow", b.medals(1, 2), 1);
        Due.is("23: another medal", b.medals(3, 2), 1);
        Due.is("23: never", b.medals(3, 0), 0);
        Due.is("23: barred", b.award(0, 1), 3);
        Due.is("23: barred counts not", b.medals(0, 1), 0);
        Due.is("23: medal 4", b.medals(4, 0), BAD);
        Due.is("23: medal -1", b.medals(-1, 0), BAD);
        Due.is("23: fellow 3", b.medals(0, 3), BAD);
        Due.is("23: fellow -1", b.medals(0, -1), BAD);
    }
}
