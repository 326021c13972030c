import com.sun.management.ThreadMXBean;
import java.lang.management.ManagementFactory;

/**
 * What a run makes is counted (LANGUAGE.md, rule 12): a new book is small, what is told of makes little, and calls that
 * keep nothing new make nothing at all.
 */
public final class RoomTest {
    private static final ThreadMXBean MACHINE = (ThreadMXBean) ManagementFactory.getThreadMXBean();
    private static final long MOST_BYTES_OF_NEW = 4000;
    private static final long MOST_BYTES_OF_FULL = 8000;
    /** Less than one object in each round. */
    private static final long MOST_BYTES_OF_NONE = 100;
    private static final int ROUNDS = 10;
    /** The least of several books counts, as the machine makes something of its own now and then, at first above all. */
    private static final int BOOKS = 5;

    private RoomTest() {
    }

    public static void main(String[] args) {
        long ofNew = Long.MAX_VALUE;
        long ofFull = Long.MAX_VALUE;
        long ofNone = Long.MAX_VALUE;
        for (int i = 0; i < BOOKS; i++) {
            long start = made();
            SocietyBook book = new SocietyBook();
            long isNew = made();
            tellOfMuch(book);
            long isFull = made();
            for (int round = 0; round < ROUNDS; round++) {
                callsThatKeepNothing(book);
            }
            ofNone = Math.min(ofNone, made() - isFull);
            ofFull = Math.min(ofFull, isFull - isNew);
            ofNew = Math.min(ofNew, isNew - start);
        }
        little("a new book", ofNew, MOST_BYTES_OF_NEW);
        little("all that a book can be told of", ofFull, MOST_BYTES_OF_FULL);
        little("calls that keep nothing new", ofNone, MOST_BYTES_OF_NONE);
        Due.end("RoomTest");
    }

    private static void little(String what, long bytes, long most) {
        Due.isTrue(what + " took " + bytes + " bytes, of at most " + most + ": that", bytes <= most);
    }

    private static long made() {
        return MACHINE.getThreadAllocatedBytes(Thread.currentThread().getId());
    }

    private static void tellOfMuch(SocietyBook book) {
        for (int i = 0; i < 12; i++) {
            book.fellow();
            book.statute(i, 0, true);
            book.byelaw(i, 0, 0, 0, 0, 1);
        }
        for (int i = 0; i < 24; i++) {
            book.paper(i % 3, i % 12, 1, 0, 0);
            book.candidate(1);
        }
        for (int i = 0; i < 100; i++) {
            book.note(i % 24, 0, 0);
        }
    }

    private static void callsThatKeepNothing(SocietyBook book) {
        book.later(1);
        book.post(0, 1, 2);
        book.open(1, 2, 3);
        book.told(0, 4);
        book.mark(0, 0);
        book.known(0, 0, 9);
        book.force(9);
        book.when(2, 0, 9, true);
        book.first(0, 9, 9);
        book.mean();
        book.propose(0, 1);
        book.withdraw(1);
        book.ballot(2, 1, 0);
        book.medal(0, 1, 1);
        book.award(0, 0);
        book.medals(0, 0);
        callsOfSets(book);
        book.asked();
        book.count(0);
        book.finding();
        book.findings(1);
        book.digest();
    }

    private static void callsOfSets(SocietyBook book) {
        book.stock(0, 0, 9);
        book.stock(1, 1, 9);
        book.copies(0, 0);
        book.sheet(0, 12);
        book.lay(0, 0, 7);
        book.copy(0, 0, 0, 1, 9);
        book.fill(2, 0);
        book.tear(0);
        book.lacks();
        book.swaps(62);
        book.whole();
    }
}
