/** Promises 24 to 33: copies, sheets and swaps. */
public final class SetsTest {
    private static final int BAD = SocietyBook.BAD, FINDING = SocietyBook.FINDING, NONE = SocietyBook.NONE;
    private static final int LOW = Integer.MIN_VALUE, HIGH = Integer.MAX_VALUE;

    public static void main(String[] args) {
        p24Stock();
        p25Copies();
        p26Sheet();
        p27Lay();
        p28Tear();
        p29Copy();
        p29CopyBeyond();
        p30Fill();
        p31Lacks();
        p32Swaps();
        p32SwapsShareSpares();
        p33Whole();
        p33WholeOfNothing();
        p33WholeWithAllPartners();
        Due.end("SetsTest");
    }

    private static void p24Stock() {
        SocietyBook b = new SocietyBook();
        Due.is("24: what it had", b.stock(5, 11, 9), 0);
        Due.is("24: what it had", b.stock(5, 11, 3), 9);
        Due.is("24: what it had", b.stock(5, 11, 0), 3);
        Due.is("24: holder 6", b.stock(6, 0, 1), BAD);
        Due.is("24: holder -1", b.stock(-1, 0, 1), BAD);
        Due.is("24: number 12", b.stock(0, 12, 1), BAD);
        Due.is("24: number -1", b.stock(0, -1, 1), BAD);
        Due.is("24: ten copies", b.stock(0, 0, 10), BAD);
        Due.is("24: -1 copies", b.stock(0, 0, -1), BAD);
        Due.is("24: nothing changed", b.stock(0, 0, 0), 0);
    }

    private static void p25Copies() {
        SocietyBook b = new SocietyBook();
        b.stock(2, 3, 4);
        Due.is("25: copies", b.copies(2, 3), 4);
        Due.is("25: of another holder", b.copies(3, 3), 0);
        Due.is("25: of another number", b.copies(2, 4), 0);
        Due.is("25: holder 6", b.copies(6, 0), BAD);
        Due.is("25: holder -1", b.copies(-1, 0), BAD);
        Due.is("25: number 12", b.copies(0, 12), BAD);
        Due.is("25: number -1", b.copies(0, -1), BAD);
    }

    private static void p26Sheet() {
        SocietyBook b = new SocietyBook();
        Due.is("26: no bytes", b.sheet(0, 0), 0);
        Due.is("26: there, but without a place", b.lay(0, 0, 1), FINDING);
        Due.is("26: BEYOND", b.finding(), 2);
        Due.is("26: twelve bytes", b.sheet(3, 12), 12);
        Due.is("26: a byte is 0", b.lay(3, 11, 77), 1000);
        Due.is("26: anew", b.sheet(3, 12), 12);
        Due.is("26: a byte is 0 again", b.lay(3, 11, 77), 1000);
        b.lay(3, 0, 5);
        b.sheet(3, 1);
        Due.is("26: the first byte, too", b.lay(3, 0, 5), 1000);
        b.sheet(3, 12);
        b.lay(3, 11, 77);
        Due.is("26: thirteen", b.sheet(3, 13), BAD);
        Due.is("26: fewer than none", b.sheet(3, -1), FINDING);
        Due.is("26: SIZE", b.finding(), 5);
        Due.is("26: the sheet stays", b.lay(3, 11, 0), 1077);
        Due.is("26: the lowest number", b.sheet(3, LOW), FINDING);
        Due.is("26: sheet 4", b.sheet(4, 1), BAD);
        Due.is("26: sheet -1", b.sheet(-1, 1), BAD);
        Due.is("26: BAD ahead of SIZE", b.sheet(4, -1), BAD);
        Due.is("26: findings(5)", b.findings(5), 2);
    }

    private static void p27Lay() {
        SocietyBook b = new SocietyBook();
        Due.is("27: missing", b.lay(1, 0, 1), FINDING);
        Due.is("27: NOTHING", b.finding(), 1);
        b.sheet(1, 3);
        Due.is("27: lay", b.lay(1, 2, 127), 1000);
        Due.is("27: what it was", b.lay(1, 2, 128), 1127);
        Due.is("27: cut to a byte", b.lay(1, 2, 256), 872);
        Due.is("27: cut to a byte", b.lay(1, 2, -1), 1000);
        Due.is("27: cut to a byte", b.lay(1, 2, HIGH), 999);
        Due.is("27: cut to a byte", b.lay(1, 2, 0), 999);
        Due.is("27: byte 3", b.lay(1, 3, 0), FINDING);
        Due.is("27: byte -1", b.lay(1, -1, 0), FINDING);
        Due.is("27: BEYOND", b.finding(), 2);
        Due.is("27: findings(2)", b.findings(2), 2);
        Due.is("27: sheet 4", b.lay(4, 0, 0), BAD);
        Due.is("27: sheet -1", b.lay(-1, 0, 0), BAD);
        Due.is("27: NOTHING ahead of BEYOND", b.lay(2, 99, 0), FINDING);
        Due.is("27: NOTHING", b.finding(), 1);
    }

    private static void p28Tear() {
        SocietyBook b = new SocietyBook();
        Due.is("28: missing at first", b.tear(0), FINDING);
        Due.is("28: NOTHING", b.finding(), 1);
        b.sheet(0, 2);
        b.lay(0, 1, 5);
        Due.is("28: torn", b.tear(0), 1);
        Due.is("28: again", b.tear(0), FINDING);
        Due.is("28: no lay", b.lay(0, 1, 1), FINDING);
        Due.is("28: sheet 4", b.tear(4), BAD);
        Due.is("28: sheet -1", b.tear(-1), BAD);
        b.sheet(0, 2);
        Due.is("28: new bytes are 0", b.lay(0, 1, 1), 1000);
    }

    private static SocietyBook withRow() {
        SocietyBook b = new SocietyBook();
        b.sheet(0, 5);
        for (int i = 0; i < 5; i++) {
            b.lay(0, i, i + 1);
        }
        b.sheet(1, 3);
        return b;
    }

    private static void row(String call, SocietyBook b, int s, int... bytes) {
        for (int i = 0; i < bytes.length; i++) {
            Due.is(call + " byte " + i, b.lay(s, i, bytes[i]), 1000 + bytes[i]);
        }
    }

    private static void p29Copy() {
        SocietyBook b = withRow();
        Due.is("29: to another", b.copy(0, 3, 1, 1, 2), 1);
        row("29: to another", b, 1, 0, 4, 5);
        row("29: the first stays", b, 0, 1, 2, 3, 4, 5);
        Due.is("29: on", b.copy(0, 0, 0, 1, 4), 1);
        row("29: on, as if taken ahead", b, 0, 1, 1, 2, 3, 4);
        Due.is("29: back", b.copy(0, 1, 0, 0, 4), 1);
        row("29: back, as if taken ahead", b, 0, 1, 2, 3, 4, 4);
        Due.is("29: none, at the end", b.copy(0, 5, 1, 3, 0), 1);
        Due.is("29: all onto itself", b.copy(0, 0, 0, 0, 5), 1);
        row("29: all onto itself", b, 0, 1, 2, 3, 4, 4);
    }

    private static void p29CopyBeyond() {
        SocietyBook b = withRow();
        int[][] beyond = {
            {0, -1, 1, 0, 1}, {0, 0, 1, -1, 1}, {0, 0, 1, 0, -1}, {0, 4, 1, 0, 2}, {0, 0, 1, 2, 2},
            {0, 6, 1, 0, 0}, {0, 0, 1, 4, 0}, {0, 0, 1, 0, HIGH}, {0, HIGH, 1, 0, 1}, {0, 0, 1, HIGH, 2},
            {0, HIGH, 0, HIGH, HIGH}, {0, LOW, 0, LOW, LOW}, {0, 3, 1, 0, HIGH - 1}, {0, 1, 0, 0, LOW},
        };
        for (int[] c : beyond) {
            Due.is("29: beyond", b.copy(c[0], c[1], c[2], c[3], c[4]), FINDING);
            Due.is("29: BEYOND", b.finding(), 2);
        }
        row("29: nothing changed", b, 0, 1, 2, 3, 4, 5);
        row("29: nothing changed", b, 1, 0, 0, 0);
        Due.is("29: from a missing one", b.copy(2, 0, 0, 0, -1), FINDING);
        Due.is("29: NOTHING ahead of BEYOND", b.finding(), 1);
        b.mean();
        Due.is("29: to a missing one", b.copy(0, 0, 2, 0, 0), FINDING);
        Due.is("29: NOTHING", b.finding(), 1);
        Due.is("29: sheet 4", b.copy(4, 0, 0, 0, 0), BAD);
        Due.is("29: sheet -1", b.copy(-1, 0, 0, 0, 0), BAD);
        Due.is("29: to sheet 4", b.copy(0, 0, 4, 0, 0), BAD);
        Due.is("29: BAD ahead of NOTHING", b.copy(2, 0, -1, 0, 0), BAD);
    }

    private static void p30Fill() {
        SocietyBook b = new SocietyBook();
        Books.stock(b, 2, 1, 1, 1, 1, 5, 6);
        b.sheet(3, 4);
        b.lay(3, 0, -5);
        b.lay(3, 1, 10);
        b.lay(3, 2, 9);
        Due.is("30: all copies", b.fill(2, 3), 0 + 9 + 9 + 0 + 5 + 6);
        Due.is("30: below 0", b.copies(2, 0), 0);
        Due.is("30: above 9", b.copies(2, 1), 9);
        Due.is("30: 9", b.copies(2, 2), 9);
        Due.is("30: 0", b.copies(2, 3), 0);
        Due.is("30: those without a byte stay", b.copies(2, 5), 6);
        Due.is("30: another holder", b.copies(0, 1), 0);
        b.sheet(3, 0);
        Due.is("30: an empty sheet", b.fill(2, 3), 29);
        Due.is("30: a missing sheet", b.fill(2, 0), FINDING);
        Due.is("30: NOTHING", b.finding(), 1);
        Due.is("30: holder 6", b.fill(6, 3), BAD);
        Due.is("30: holder -1", b.fill(-1, 3), BAD);
        Due.is("30: sheet 4", b.fill(0, 4), BAD);
        Due.is("30: sheet -1", b.fill(0, -1), BAD);
        Due.is("30: BAD ahead of NOTHING", b.fill(6, 0), BAD);
        b.sheet(0, 12);
        Due.is("30: twelve bytes", b.fill(2, 0), 0);
        b.lay(0, 11, 8);
        Due.is("30: the society", b.fill(0, 0), 8);
        Due.is("30: the last partner", b.fill(5, 0), 8);
        Due.is("30: the last number", b.copies(5, 11), 8);
    }

    private static void p31Lacks() {
        SocietyBook b = new SocietyBook();
        Due.is("31: all", b.lacks(), 4095);
        b.stock(0, 0, 1);
        b.stock(0, 11, 9);
        b.stock(1, 5, 9);
        Due.is("31: but two", b.lacks(), 4095 - 1 - 2048);
        Books.stock(b, 0, 1, 1, 1, 1, 1, 1, 1, 1, 1, 1, 1, 1);
        Due.is("31: none", b.lacks(), 0);
    }

    private static void p32Swaps() {
        SocietyBook b = new SocietyBook();
        Books.stock(b, 0, 0, 0, 3, 1, 1, 1, 1, 1, 1, 1, 1, 1);
        Due.is("32: nobody has spares", b.swaps(62), 0);
        Books.stock(b, 1, 1, 1);
        Due.is("32: one copy is not spare", b.swaps(2), 0);
        Books.stock(b, 1, 2, 9);
        Due.is("32: a partner takes a number once", b.swaps(2), 1);
        Books.stock(b, 2, 9, 0);
        Due.is("32: a number is got once", b.swaps(4), 1);
        Due.is("32: both", b.swaps(6), 2);
        Due.is("32: all", b.swaps(62), 2);
        Due.is("32: partners without", b.swaps(56), 0);
        Due.is("32: no partner", b.swaps(0), 0);
        Due.is("32: nothing changed", b.lacks(), 3);
        Due.is("32: bit 0", b.swaps(1), BAD);
        Due.is("32: bits 0, 1", b.swaps(3), BAD);
        Due.is("32: bit 6", b.swaps(64), BAD);
        Due.is("32: -2", b.swaps(-2), BAD);
        b.stock(1, 2, 1);
        Due.is("32: the partner has it", b.swaps(2), 0);
        b.stock(0, 2, 2);
        Due.is("32: one spare", b.swaps(6), 1);
        b.stock(0, 2, 1);
        Due.is("32: no spare", b.swaps(6), 0);
    }

    private static void p32SwapsShareSpares() {
        SocietyBook b = new SocietyBook();
        Books.stock(b, 0, 0, 0, 2, 2, 1, 1, 1, 1, 1, 1, 1, 1);
        Books.stock(b, 1, 2, 0, 0, 0);
        Books.stock(b, 2, 0, 2, 0, 1);
        Due.is("32: the one spare goes to whom nothing else serves", b.swaps(6), 2);
        Books.stock(b, 1, 2, 2, 0, 0);
        Books.stock(b, 2, 2, 0, 1, 1);
        Due.is("32: the giver who takes nothing gives nothing", b.swaps(4), 0);
        Due.is("32: the other gives both", b.swaps(6), 2);
        Due.is("32: asked() is not touched", b.asked(), 0);
    }

    private static void p33Whole() {
        SocietyBook b = new SocietyBook();
        Books.stock(b, 0, 0, 0, 3, 1, 1, 1, 1, 1, 1, 1, 1, 1);
        Due.is("33: not with all", b.whole(), NONE);
        Books.stock(b, 5, 2, 2);
        Due.is("33: one is too few", b.whole(), NONE);
        Books.stock(b, 4, 2, 2);
        Due.is("33: two", b.whole(), 2);
        Due.is("33: asked()", b.asked(), 48);
        Books.stock(b, 1, 2, 0);
        Due.is("33: the least bits", b.whole(), 2);
        Due.is("33: asked()", b.asked(), 18);
        b.stock(0, 3, 2);
        Due.is("33: fewer partners ahead of fewer bits", b.whole(), 1);
        Due.is("33: asked()", b.asked(), 16);
        b.stock(0, 2, 1);
        b.stock(0, 3, 1);
        Due.is("33: none again", b.whole(), NONE);
        Due.is("33: asked() stays", b.asked(), 16);
    }

    private static void p33WholeOfNothing() {
        SocietyBook b = new SocietyBook();
        Books.stock(b, 0, 0, 2, 1, 1, 1, 1, 1, 1, 1, 1, 1, 1);
        b.stock(3, 0, 2);
        b.whole();
        Due.is("33: asked()", b.asked(), 8);
        b.stock(0, 0, 1);
        Due.is("33: nothing lacks", b.whole(), 0);
        Due.is("33: no partners", b.asked(), 0);
    }

    private static void p33WholeWithAllPartners() {
        SocietyBook b = new SocietyBook();
        Books.stock(b, 0, 6, 0, 0, 0, 0, 0, 1, 1, 1, 1, 1, 1);
        for (int partner = 1; partner <= 5; partner++) {
            b.stock(partner, partner, 2);
        }
        Due.is("33: all partners", b.whole(), 5);
        Due.is("33: asked()", b.asked(), 62);
        b.stock(0, 0, 2);
        Due.is("32: one spare among all partners", b.swaps(62), 1);
        Due.is("33: it does not do", b.whole(), NONE);
    }
}
