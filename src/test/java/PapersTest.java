/** Promises 1 to 15: a new book, fellows, papers, notes, statutes and who was first. */
public final class PapersTest {
    private static final int BAD = SocietyBook.BAD, FULL = SocietyBook.FULL, FINDING = SocietyBook.FINDING;
    private static final int STATE = SocietyBook.STATE, NONE = SocietyBook.NONE;
    private static final int LOW = Integer.MIN_VALUE, HIGH = Integer.MAX_VALUE;

    public static void main(String[] args) {
        p01NewObject();
        p02Later();
        p03Fellow();
        p04Post();
        p05Paper();
        p06NoteOrder();
        p06NotePutsRight();
        p06NoteOfLetter();
        p06NoteFull();
        p07Open();
        p08Told();
        p09Mark();
        p10Known();
        p11Statute();
        p12Force();
        p13When();
        p13WhenSealed();
        p14First();
        p14FirstOfSpans();
        p15Mean();
        Due.end("PapersTest");
    }

    private static void p01NewObject() {
        SocietyBook b = new SocietyBook();
        for (int what = 0; what < 8; what++) {
            Due.is("1: count(" + what + ")", b.count(what), 0);
        }
        Due.is("1: asked()", b.asked(), 0);
        Due.is("1: finding()", b.finding(), 0);
        Due.is("1: lacks()", b.lacks(), 4095);
        Due.is("1: force(30000)", b.force(30000), NONE);
        Due.is("1: tear(0)", b.tear(0), FINDING);
    }

    private static void p02Later() {
        SocietyBook b = new SocietyBook();
        Due.is("2: later(0)", b.later(0), 0);
        Due.is("2: later(-1)", b.later(-1), BAD);
        Due.is("2: later(30001)", b.later(30001), BAD);
        Due.is("2: later(7)", b.later(7), 7);
        Due.is("2: later(0)", b.later(0), 7);
        Due.is("2: later(HIGH)", b.later(HIGH), BAD);
        Due.is("2: later(LOW)", b.later(LOW), BAD);
        Due.is("2: later(29994)", b.later(29994), BAD);
        Due.is("2: count(0)", b.count(0), 7);
        Due.is("2: later(29993)", b.later(29993), 30000);
        Due.is("2: later(0)", b.later(0), 30000);
        Due.is("2: later(1)", b.later(1), BAD);
    }

    private static void p03Fellow() {
        SocietyBook b = new SocietyBook();
        for (int i = 0; i < 16; i++) {
            Due.is("3: fellow()", b.fellow(), i);
        }
        Due.is("3: fellow()", b.fellow(), FULL);
        Due.is("3: count(1)", b.count(1), 16);
    }

    private static void p04Post() {
        SocietyBook b = Books.withFellows(1);
        Due.is("4: post(5, 0, 500)", b.post(5, 0, 500), 1);
        Due.is("4: post(0, 500, 500)", b.post(0, 500, 500), 1);
        Due.is("4: post(6, 0, 0)", b.post(6, 0, 0), BAD);
        Due.is("4: post(-1, 0, 0)", b.post(-1, 0, 0), BAD);
        Due.is("4: post(5, -1, 5)", b.post(5, -1, 5), BAD);
        Due.is("4: post(5, 0, 501)", b.post(5, 0, 501), BAD);
        Due.is("4: post(5, 3, 2)", b.post(5, 3, 2), BAD);
        Due.is("4: post(5, 501, 501)", b.post(5, 501, 501), BAD);
        b.statute(0, 0, false);
        b.paper(2, 0, 1, 0, 5);
        b.paper(2, 0, 1, 0, 0);
        b.paper(2, 0, 1, 0, 1);
        Due.is("4: post 5 from", b.when(0, 0, 0, false), 0);
        Due.is("4: post 5 to", b.when(0, 0, 0, true), 500);
        Due.is("4: post 0 from", b.when(1, 0, 0, false), 500);
        Due.is("4: post 1 at first", b.when(2, 0, 0, true), 0);
        Due.is("4: post(5, 0, 0)", b.post(5, 0, 0), 1);
        Due.is("4: a letter keeps its span", b.when(0, 0, 0, true), 500);
    }

    private static void p05Paper() {
        SocietyBook b = new SocietyBook();
        Due.is("5: no fellow", b.paper(0, 0, 0, 0, 0), BAD);
        b.fellow();
        b.later(10);
        Due.is("5: kind -1", b.paper(-1, 0, 0, 0, 0), BAD);
        Due.is("5: kind 3", b.paper(3, 0, 0, 0, 0), BAD);
        Due.is("5: author -1", b.paper(0, -1, 0, 0, 0), BAD);
        Due.is("5: author 1", b.paper(0, 1, 0, 0, 0), BAD);
        Due.is("5: claims -1", b.paper(0, 0, -1, 0, 0), BAD);
        Due.is("5: claims 65536", b.paper(0, 0, 65536, 0, 0), BAD);
        Due.is("5: letter of tomorrow", b.paper(2, 0, 0, 11, 0), BAD);
        Due.is("5: letter of day -1", b.paper(2, 0, 0, -1, 0), BAD);
        Due.is("5: letter by post 6", b.paper(2, 0, 0, 0, 6), BAD);
        Due.is("5: letter by post -1", b.paper(2, 0, 0, 0, -1), BAD);
        Due.is("5: sent, post not looked at", b.paper(0, 0, 65535, HIGH, LOW), 0);
        Due.is("5: nor of a sealed one", b.paper(1, 0, 0, -1, 6), 1);
        Due.is("5: letter of today", b.paper(2, 0, 0, 10, 5), 2);
        for (int i = 3; i < 24; i++) {
            Due.is("5: paper", b.paper(0, 0, 1, 0, 0), i);
        }
        Due.is("5: 25th", b.paper(0, 0, 1, 0, 0), FULL);
        Due.is("5: BAD ahead of FULL", b.paper(2, 0, 1, 11, 0), BAD);
        Due.is("5: count(2)", b.count(2), 24);
        Due.is("5: there is no paper 24", b.told(24, 0), BAD);
    }

    private static void p06NoteOrder() {
        SocietyBook b = Books.withPapers();
        Due.is("6: paper -1", b.note(-1, 0, 0), BAD);
        Due.is("6: paper 3", b.note(3, 0, 0), BAD);
        Due.is("6: what -1", b.note(0, -1, 0), BAD);
        Due.is("6: what 3", b.note(0, 3, 0), BAD);
        Due.is("6: day -1", b.note(0, 0, -1), BAD);
        Due.is("6: day 101", b.note(0, 0, 101), BAD);
        Due.is("6: READ without RECEIVED", b.note(0, 1, 50), STATE);
        Due.is("6: RECEIVED", b.note(0, 0, 50), 1);
        Due.is("6: PRINTED without READ", b.note(0, 2, 60), STATE);
        Due.is("6: READ too early", b.note(0, 1, 49), STATE);
        Due.is("6: READ the same day", b.note(0, 1, 50), 2);
        Due.is("6: PRINTED too early", b.note(0, 2, 49), STATE);
        Due.is("6: PRINTED the same day", b.note(0, 2, 50), 3);
        Due.is("6: of another paper", b.note(1, 0, 100), 4);
        Due.is("6: on day 0", b.note(1, 0, 0), 5);
        Due.is("6: count(3)", b.count(3), 5);
    }

    private static void p06NotePutsRight() {
        SocietyBook b = Books.withPapers();
        b.note(0, 0, 50);
        b.note(0, 1, 60);
        Due.is("6: RECEIVED behind READ", b.note(0, 0, 61), STATE);
        Due.is("6: RECEIVED on READ", b.note(0, 0, 60), 3);
        Due.is("6: READ ahead of the new RECEIVED", b.note(0, 1, 59), STATE);
        b.note(0, 2, 70);
        Due.is("6: READ behind PRINTED", b.note(0, 1, 71), STATE);
        Due.is("6: READ on PRINTED", b.note(0, 1, 70), 5);
        Due.is("6: PRINTED ahead of the new READ", b.note(0, 2, 69), STATE);
        Due.is("6: RECEIVED earlier", b.note(0, 0, 1), 6);
        Due.is("6: PRINTED later", b.note(0, 2, 100), 7);
        Due.is("6: last RECEIVED", b.told(0, 4), 1);
        Due.is("6: last READ", b.told(0, 5), 70);
        Due.is("6: last PRINTED", b.told(0, 6), 100);
    }

    private static void p06NoteOfLetter() {
        SocietyBook b = Books.withPapers();
        b.later(50);
        Due.is("6: ahead of the span", b.note(2, 0, 89), STATE);
        Due.is("6: behind the span", b.note(2, 0, 111), STATE);
        Due.is("6: the span's first day", b.note(2, 0, 90), 1);
        Due.is("6: the span's last day", b.note(2, 0, 110), 2);
        b.post(4, 0, 500);
        Due.is("6: the post as it was", b.note(2, 0, 111), STATE);
        Due.is("6: READ is not bound by the span", b.note(2, 1, 140), 3);
        Due.is("6: a PAPER has no span", b.note(0, 0, 3), 4);
    }

    private static void p06NoteFull() {
        SocietyBook b = Books.withPapers();
        for (int i = 1; i <= 100; i++) {
            Due.is("6: note " + i, b.note(i % 2, 0, i % 100), i);
        }
        Due.is("6: 101st", b.note(0, 0, 1), FULL);
        Due.is("6: FULL ahead of STATE", b.note(0, 2, 1), FULL);
        Due.is("6: BAD ahead of FULL", b.note(0, 0, 101), BAD);
        Due.is("6: what was last stays", b.told(0, 4), 0);
        Due.is("6: known in a long chain", b.known(1, 0, 100), 99);
        Due.is("6: count(3)", b.count(3), 100);
    }

    private static void p07Open() {
        SocietyBook b = Books.withPapers();
        Due.is("7: paper 3", b.open(3, 0, 2), BAD);
        Due.is("7: paper -1", b.open(-1, 0, 2), BAD);
        Due.is("7: a is none", b.open(1, 3, 2), BAD);
        Due.is("7: a -1", b.open(1, -1, 2), BAD);
        Due.is("7: b is none", b.open(1, 2, 3), BAD);
        Due.is("7: b -1", b.open(1, 2, -1), BAD);
        Due.is("7: the same", b.open(1, 2, 2), BAD);
        Due.is("7: a its author", b.open(1, 1, 2), BAD);
        Due.is("7: b its author", b.open(1, 2, 1), BAD);
        Due.is("7: BAD ahead of UNLIKE", b.open(0, 0, 1), BAD);
        Due.is("7: findings(3)", b.findings(3), 0);
        Due.is("7: a PAPER", b.open(0, 1, 2), FINDING);
        Due.is("7: a LETTER", b.open(2, 1, 0), FINDING);
        Due.is("7: UNLIKE", b.finding(), 3);
        Due.is("7: findings(3)", b.findings(3), 2);
        Due.is("7: not opened yet", b.mark(1, 1), NONE);
        b.later(5);
        Due.is("7: opened", b.open(1, 0, 2), 1);
        b.later(5);
        Due.is("7: once only", b.open(1, 2, 0), STATE);
        Due.is("7: BAD ahead of STATE", b.open(1, 2, 1), BAD);
        Due.is("7: the day", b.mark(1, 1), 105);
    }

    private static void p08Told() {
        SocietyBook b = Books.withPapers();
        Due.is("8: KIND", b.told(1, 0), 1);
        Due.is("8: author", b.told(2, 1), 2);
        Due.is("8: CLAIMS", b.told(2, 2), 9);
        Due.is("8: day", b.told(2, 3), 100);
        for (int what = 4; what <= 6; what++) {
            Due.is("8: no note", b.told(0, what), NONE);
        }
        b.later(20);
        b.note(0, 0, 110);
        b.note(0, 1, 111);
        b.note(0, 2, 112);
        b.note(0, 2, 113);
        Due.is("8: RECEIVED", b.told(0, 4), 110);
        Due.is("8: READ", b.told(0, 5), 111);
        Due.is("8: PRINTED", b.told(0, 6), 113);
        Due.is("8: of another", b.told(1, 4), NONE);
        Due.is("8: day stays", b.told(0, 3), 100);
        Due.is("8: what 7", b.told(0, 7), BAD);
        Due.is("8: what -1", b.told(0, -1), BAD);
        Due.is("8: paper 3", b.told(3, 0), BAD);
        Due.is("8: paper -1", b.told(-1, 0), BAD);
    }

    private static void p09Mark() {
        SocietyBook b = Books.withPapers();
        b.paper(0, 0, 65535, 0, 0);
        b.paper(0, 0, 0, 0, 0);
        Due.is("9: CLAIMS", b.mark(0, 0), 2);
        Due.is("9: CLAIMS of a SEALED one", b.mark(1, 0), 2);
        Due.is("9: CLAIMS of a LETTER", b.mark(2, 0), 2);
        Due.is("9: all CLAIMS", b.mark(3, 0), 16);
        Due.is("9: no CLAIMS", b.mark(4, 0), 0);
        Due.is("9: not OPENED", b.mark(1, 1), NONE);
        Due.is("9: SENT", b.mark(2, 2), 80);
        Due.is("9: finding()", b.finding(), 0);
        Due.is("9: a PAPER is no SEALED one", b.mark(0, 1), FINDING);
        Due.is("9: a LETTER is no SEALED one", b.mark(2, 1), FINDING);
        Due.is("9: a PAPER is no LETTER", b.mark(0, 2), FINDING);
        Due.is("9: a SEALED one is no LETTER", b.mark(1, 2), FINDING);
        Due.is("9: UNLIKE", b.finding(), 3);
        Due.is("9: findings(3)", b.findings(3), 4);
        Due.is("9: kind 3", b.mark(0, 3), BAD);
        Due.is("9: kind -1", b.mark(0, -1), BAD);
        Due.is("9: paper 5", b.mark(5, 0), BAD);
        Due.is("9: paper -1", b.mark(-1, 0), BAD);
        b.open(1, 0, 2);
        Due.is("9: OPENED", b.mark(1, 1), 100);
    }

    private static void p10Known() {
        SocietyBook b = Books.withPapers();
        b.note(0, 0, 50);
        b.note(0, 0, 51);
        b.later(10);
        b.note(0, 0, 20);
        b.note(0, 1, 30);
        b.note(1, 0, 9);
        Due.is("10: nothing known yet", b.known(0, 0, 99), NONE);
        Due.is("10: the last of that day", b.known(0, 0, 100), 51);
        Due.is("10: the day ahead", b.known(0, 0, 109), 51);
        Due.is("10: put right", b.known(0, 0, 110), 20);
        Due.is("10: on a day to come", b.known(0, 0, 30000), 20);
        Due.is("10: READ", b.known(0, 1, 110), 30);
        Due.is("10: READ ahead", b.known(0, 1, 109), NONE);
        Due.is("10: PRINTED", b.known(0, 2, 110), NONE);
        Due.is("10: of another paper", b.known(1, 0, 110), 9);
        Due.is("10: what 3", b.known(0, 3, 0), BAD);
        Due.is("10: what -1", b.known(0, -1, 0), BAD);
        Due.is("10: day -1", b.known(0, 0, -1), BAD);
        Due.is("10: day 30001", b.known(0, 0, 30001), BAD);
        Due.is("10: paper 3", b.known(3, 0, 0), BAD);
        Due.is("10: paper -1", b.known(-1, 0, 0), BAD);
    }

    private static void p11Statute() {
        SocietyBook b = new SocietyBook();
        Due.is("11: what -1", b.statute(0, -1, true), BAD);
        Due.is("11: what 3", b.statute(0, 3, true), BAD);
        Due.is("11: day -1", b.statute(-1, 0, true), BAD);
        Due.is("11: day 30001", b.statute(30001, 0, true), BAD);
        for (int i = 0; i < 12; i++) {
            Due.is("11: statute", b.statute(30000 * (i % 2), i % 3, i % 2 == 0), i);
        }
        Due.is("11: 13th", b.statute(0, 0, true), FULL);
        Due.is("11: BAD ahead of FULL", b.statute(0, 3, true), BAD);
        Due.is("11: count(4)", b.count(4), 12);
    }

    private static void p12Force() {
        SocietyBook b = new SocietyBook();
        Due.is("12: none", b.force(30000), NONE);
        b.statute(50, 0, false);
        b.statute(20, 1, false);
        b.statute(50, 2, false);
        b.statute(30, 2, false);
        Due.is("12: ahead of all", b.force(19), NONE);
        Due.is("12: its first day", b.force(20), 1);
        Due.is("12: day 29", b.force(29), 1);
        Due.is("12: the later told is earlier in days", b.force(49), 3);
        Due.is("12: of alike ones the last", b.force(50), 2);
        Due.is("12: day 30000", b.force(30000), 2);
        Due.is("12: day -1", b.force(-1), BAD);
        Due.is("12: day 30001", b.force(30001), BAD);
    }

    private static void p13When() {
        SocietyBook b = Books.withPapers();
        b.statute(0, 0, false);
        b.statute(0, 1, false);
        b.statute(0, 2, false);
        b.later(20);
        Due.is("13: no note", b.when(0, 0, 120, false), NONE);
        Due.is("13: span from", b.when(2, 0, 100, false), 90);
        Due.is("13: span to", b.when(2, 0, 100, true), 110);
        Due.is("13: letter not told yet", b.when(2, 0, 99, false), NONE);
        Due.is("13: span only if RECEIVED counts", b.when(2, 1, 120, false), NONE);
        b.note(2, 0, 95);
        Due.is("13: the note from", b.when(2, 0, 120, false), 95);
        Due.is("13: the note to", b.when(2, 0, 120, true), 95);
        Due.is("13: the note not known yet", b.when(2, 0, 119, true), 110);
        b.note(2, 1, 97);
        b.note(2, 2, 99);
        b.later(1);
        b.note(2, 1, 98);
        Due.is("13: READ", b.when(2, 1, 121, false), 98);
        Due.is("13: READ as known", b.when(2, 1, 120, true), 97);
        Due.is("13: PRINTED", b.when(2, 2, 121, true), 99);
        Due.is("13: paper 3", b.when(3, 0, 0, true), BAD);
        Due.is("13: paper -1", b.when(-1, 0, 0, true), BAD);
        Due.is("13: statute 3", b.when(0, 3, 0, true), BAD);
        Due.is("13: statute -1", b.when(0, -1, 0, true), BAD);
        Due.is("13: k -1", b.when(0, 0, -1, true), BAD);
        Due.is("13: k 30001", b.when(0, 0, 30001, true), BAD);
    }

    private static void p13WhenSealed() {
        SocietyBook b = Books.withPapers();
        b.statute(0, 2, true);
        b.statute(0, 0, false);
        b.later(20);
        b.note(1, 0, 115);
        b.later(20);
        b.open(1, 0, 2);
        Due.is("13: not OPENED by then", b.when(1, 0, 139, false), NONE);
        Due.is("13: deposited, from", b.when(1, 0, 140, false), 100);
        Due.is("13: deposited, to", b.when(1, 0, 140, true), 100);
        Due.is("13: the statute does not let it", b.when(1, 1, 140, false), 115);
        b.statute(0, 0, true);
        Due.is("13: sealed ahead of the note", b.when(1, 2, 140, true), 100);
        Due.is("13: the note while not OPENED", b.when(1, 2, 139, true), 115);
        Due.is("13: a PAPER is not sealed", b.when(0, 2, 140, true), NONE);
    }

    private static void p14First() {
        SocietyBook b = Books.withPapers();
        Due.is("14: none in force", b.first(0, 30000, 0), STATE);
        b.statute(10, 0, false);
        b.statute(20, 1, true);
        Due.is("14: still none", b.first(0, 9, 100), STATE);
        Due.is("14: the letter alone", b.first(0, 10, 100), 1);
        Due.is("14: asked()", b.asked(), 0b100);
        b.note(0, 0, 90);
        b.note(1, 0, 90);
        Due.is("14: alike", b.first(0, 10, 100), 3);
        Due.is("14: asked()", b.asked(), 0b111);
        Due.is("14: only with the claim", b.first(1, 10, 100), 1);
        Due.is("14: asked()", b.asked(), 0b001);
        Due.is("14: refused", b.first(1, 9, 100), STATE);
        Due.is("14: asked() stays", b.asked(), 0b001);
        Due.is("14: not known then", b.first(1, 10, 99), 0);
        Due.is("14: asked()", b.asked(), 0);
        Due.is("14: by the statute of the day", b.first(0, 20, 100), 0);
        b.open(1, 0, 2);
        Due.is("14: the sealed one", b.first(2, 20, 100), 1);
        Due.is("14: asked()", b.asked(), 0b010);
        Due.is("14: nobody claims", b.first(15, 10, 100), 0);
        Due.is("14: claim 16", b.first(16, 10, 100), BAD);
        Due.is("14: claim -1", b.first(-1, 10, 100), BAD);
        Due.is("14: day 30001", b.first(0, 30001, 100), BAD);
        Due.is("14: day -1", b.first(0, -1, 100), BAD);
        Due.is("14: k 30001", b.first(0, 10, 30001), BAD);
        Due.is("14: k -1", b.first(0, 10, -1), BAD);
        Due.is("14: BAD ahead of STATE", b.first(16, 0, 100), BAD);
    }

    private static void p14FirstOfSpans() {
        SocietyBook b = Books.withFellows(1);
        b.later(100);
        b.statute(0, 0, false);
        b.post(0, 0, 10);
        b.post(1, 5, 30);
        b.post(2, 11, 12);
        b.paper(2, 0, 1, 50, 0);
        b.paper(2, 0, 1, 50, 1);
        b.paper(2, 0, 1, 50, 2);
        b.paper(0, 0, 1, 0, 0);
        b.note(3, 0, 60);
        Due.is("14: spans that meet the least latest day", b.first(0, 0, 100), 3);
        Due.is("14: asked()", b.asked(), 0b1011);
        b.note(3, 0, 61);
        Due.is("14: a day too late", b.first(0, 0, 100), 2);
        Due.is("14: asked()", b.asked(), 0b0011);
        b.note(3, 0, 52);
        Due.is("14: a day within a span", b.first(0, 0, 100), 2);
        Due.is("14: asked()", b.asked(), 0b1001);
        SocietyBook c = Books.withFellows(1);
        c.statute(0, 0, false);
        c.later(30000);
        c.post(0, 500, 500);
        c.paper(2, 0, 1, 30000, 0);
        Due.is("14: a span beyond the last day", c.first(0, 0, 30000), 1);
        Due.is("14: its end", c.when(0, 0, 30000, true), 30500);
    }

    private static void p15Mean() {
        SocietyBook b = Books.withPapers();
        Due.is("15: no papers with both", b.mean(), FINDING);
        Due.is("15: NOUGHT", b.finding(), 4);
        b.note(0, 0, 10);
        Due.is("15: RECEIVED alone", b.mean(), FINDING);
        Due.is("15: findings(4)", b.findings(4), 2);
        b.note(0, 1, 20);
        Due.is("15: one", b.mean(), 10);
        b.note(1, 0, 10);
        b.note(1, 1, 11);
        Due.is("15: cut", b.mean(), 5);
        b.note(0, 1, 30);
        Due.is("15: by the last notes", b.mean(), 10);
        b.note(2, 0, 90);
        Due.is("15: one without", b.mean(), 10);
        b.note(2, 1, 90);
        Due.is("15: none between", b.mean(), 7);
    }
}
