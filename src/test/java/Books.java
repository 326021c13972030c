/** Books that several tests begin with. */
final class Books {
    private Books() {
    }

    static SocietyBook withFellows(int fellows) {
        SocietyBook book = new SocietyBook();
        for (int i = 0; i < fellows; i++) {
            book.fellow();
        }
        return book;
    }

    /** Three fellows on day 100, with papers 0 (a PAPER by 0), 1 (SEALED by 1), 2 (a LETTER by 2, span 90 .. 110). */
    static SocietyBook withPapers() {
        SocietyBook book = withFellows(3);
        book.post(4, 10, 30);
        book.later(100);
        book.paper(0, 0, 0b0011, -7, 99);
        book.paper(1, 1, 0b0101, -7, 99);
        book.paper(2, 2, 0b1001, 80, 4);
        return book;
    }

    /** The paper gets a note of each kind on one day. */
    static void print(SocietyBook book, int paper, int day) {
        for (int what = 0; what < 3; what++) {
            book.note(paper, what, day);
        }
    }

    /** Tells one row of copies, number by number. */
    static void stock(SocietyBook book, int holder, int... copies) {
        for (int number = 0; number < copies.length; number++) {
            book.stock(holder, number, copies[number]);
        }
    }
}
