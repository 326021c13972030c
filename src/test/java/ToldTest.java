/** Promises 34 to 38: what is told. */
public final class ToldTest {
    private static final int BAD = SocietyBook.BAD, FINDING = SocietyBook.FINDING, NONE = SocietyBook.NONE;

    public static void main(String[] args) {
        p34Asked();
        p35Count();
        p36Finding();
        p37Findings();
        p38DigestOfNew();
        p38Digest();
        p38DigestSeesEach();
        Due.end("ToldTest");
    }

    private static void p34Asked() {
        SocietyBook b = Books.withPapers();
        Due.is("34: before", b.asked(), 0);
        b.statute(0, 0, false);
        b.byelaw(0, 0, 1, 0, 0, 1);
        b.first(3, 0, 100);
        Due.is("34: first()", b.asked(), 4);
        b.candidate(0);
        Due.is("34: a barred ballot", b.ballot(0, 1, 0), 3);
        Due.is("34: stays", b.asked(), 4);
        b.propose(0, 0);
        Due.is("34: elected", b.ballot(0, 1, 0), 1);
        Due.is("34: the fellow", b.asked(), 3);
        Due.is("34: gone", b.ballot(0, 1, 0), FINDING);
        Due.is("34: stays", b.asked(), 3);
        Due.is("34: whole() NONE", b.whole(), NONE);
        Due.is("34: stays", b.asked(), 3);
        Books.stock(b, 0, 0, 2, 1, 1, 1, 1, 1, 1, 1, 1, 1, 1);
        b.stock(2, 0, 2);
        Due.is("34: whole()", b.whole(), 1);
        Due.is("34: the set", b.asked(), 4);
        Due.is("34: first() refused", b.first(16, 0, 0), BAD);
        Due.is("34: stays", b.asked(), 4);
        Due.is("34: first() of none", b.first(9, 0, 100), 0);
        Due.is("34: the empty set", b.asked(), 0);
    }

    private static void p35Count() {
        SocietyBook b = Books.withPapers();
        Books.print(b, 0, 99);
        b.note(1, 0, 1);
        for (int i = 0; i < 5; i++) {
            b.statute(i, 0, true);
        }
        for (int i = 0; i < 6; i++) {
            b.byelaw(i, 0, 0, 0, 0, 1);
        }
        for (int i = 0; i < 7; i++) {
            b.candidate(1);
        }
        b.withdraw(2);
        for (int i = 0; i < 8; i++) {
            b.award(0, 0);
        }
        int[] due = {100, 3, 3, 4, 5, 6, 7, 8};
        for (int what = 0; what < 8; what++) {
            Due.is("35: count(" + what + ")", b.count(what), due[what]);
        }
        Due.is("35: count(8)", b.count(8), BAD);
        Due.is("35: count(-1)", b.count(-1), BAD);
        b.ballot(0, 1, 0);
        Due.is("35: one more fellow", b.count(1), 4);
        Due.is("35: candidates ever", b.count(6), 7);
    }

    private static void p36Finding() {
        SocietyBook b = Books.withPapers();
        Due.is("36: before any", b.finding(), 0);
        b.tear(0);
        Due.is("36: NOTHING", b.finding(), 1);
        b.sheet(0, 1);
        b.lay(0, 1, 0);
        Due.is("36: BEYOND", b.finding(), 2);
        b.mark(0, 1);
        Due.is("36: UNLIKE", b.finding(), 3);
        b.mean();
        Due.is("36: NOUGHT", b.finding(), 4);
        b.sheet(0, -1);
        Due.is("36: SIZE", b.finding(), 5);
        b.sheet(0, 13);
        b.note(0, 2, 1);
        b.sheet(0, 1);
        Due.is("36: other answers leave it", b.finding(), 5);
        b.candidate(0);
        b.withdraw(0);
        b.withdraw(0);
        Due.is("36: the latest", b.finding(), 1);
    }

    private static void p37Findings() {
        SocietyBook b = Books.withPapers();
        for (int f = 1; f <= 5; f++) {
            Due.is("37: findings(" + f + ")", b.findings(f), 0);
        }
        b.tear(0);
        b.sheet(0, 1);
        for (int i = 0; i < 2; i++) {
            b.lay(0, -1, 0);
        }
        for (int i = 0; i < 3; i++) {
            b.open(0, 1, 2);
        }
        for (int i = 0; i < 4; i++) {
            b.mean();
        }
        for (int i = 0; i < 5; i++) {
            b.sheet(0, -1);
        }
        for (int f = 1; f <= 5; f++) {
            Due.is("37: findings(" + f + ")", b.findings(f), f);
        }
        Due.is("37: findings(0)", b.findings(0), BAD);
        Due.is("37: findings(6)", b.findings(6), BAD);
        Due.is("37: findings(-1)", b.findings(-1), BAD);
    }

    private static long mixed(long h, long... values) {
        for (long v : values) {
            h = 31 * h + v;
        }
        return h;
    }

    private static void p38DigestOfNew() {
        long h = mixed(17, new long[8 + 72]);
        Due.is("38: a new book", new SocietyBook().digest(), mixed(h, -1, -1, -1, -1));
    }

    private static void p38Digest() {
        SocietyBook b = Books.withPapers();
        b.note(0, 0, 50);
        b.note(0, 1, 60);
        b.candidate(5);
        b.candidate(0);
        b.candidate(2);
        b.withdraw(1);
        b.stock(0, 1, 3);
        b.stock(5, 11, 9);
        b.sheet(0, 0);
        b.sheet(2, 3);
        b.lay(2, 1, 200);
        b.sheet(3, 5);
        b.tear(3);
        long h = mixed(17, 100, 3, 3, 2, 0, 0, 3, 0);
        h = mixed(h, 0, 0, 3, 100, 50, 60, NONE);
        h = mixed(h, 1, 1, 5, 100, NONE, NONE, NONE);
        h = mixed(h, 2, 2, 9, 100, NONE, NONE, NONE);
        h = mixed(h, 5, -1, 2);
        long[] copies = new long[72];
        copies[1] = 3;
        copies[71] = 9;
        h = mixed(h, copies);
        h = mixed(h, 0, -1, 3, 0, -56, 0, -1);
        Due.is("38: digest()", b.digest(), h);
        Due.is("38: it changes nothing", b.digest(), h);
    }

    private static void p38DigestSeesEach() {
        SocietyBook b = Books.withPapers();
        long before = b.digest();
        b.mean();
        b.tear(1);
        b.medal(0, 1, 1);
        b.post(0, 1, 1);
        Due.isTrue("38: findings, medals, posts are not in it", b.digest() == before);
        b.statute(0, 0, true);
        Due.isTrue("38: a statute", b.digest() != before);
        before = b.digest();
        b.byelaw(0, 0, 0, 0, 0, 1);
        Due.isTrue("38: a byelaw", b.digest() != before);
        before = b.digest();
        b.candidate(0);
        Due.isTrue("38: a candidate", b.digest() != before);
        before = b.digest();
        b.ballot(0, 1, 0);
        Due.isTrue("38: an election", b.digest() != before);
    }
}
