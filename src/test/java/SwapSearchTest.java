import java.util.HashMap;
import java.util.Map;
import java.util.Random;

/** Promises 32 and 33 against a plain search that tries every swap, on many small books. */
public final class SwapSearchTest {
    private static final int NUMBERS = 12;

    public static void main(String[] args) {
        Random random = new Random(20261116);
        for (int round = 0; round < 1500; round++) {
            int[][] copies = someCopies(random, round);
            SocietyBook book = new SocietyBook();
            for (int i = 0; i < 6 * NUMBERS; i++) {
                book.stock(i / NUMBERS, i % NUMBERS, copies[i / NUMBERS][i % NUMBERS]);
            }
            check(book, copies, round);
        }
        Due.end("SwapSearchTest");
    }

    /** Few numbers that lack and few spare ones, so that the search ends soon; the spares are scarce. */
    private static int[][] someCopies(Random random, int round) {
        int[][] copies = new int[6][NUMBERS];
        int lacking = 1 + random.nextInt(4);
        int sparing = 1 + random.nextInt(3);
        for (int number = 0; number < NUMBERS; number++) {
            int place = (number + round) % NUMBERS;
            copies[0][place] = number < lacking ? 0 : number < lacking + sparing ? 2 + random.nextInt(2) : 1;
            for (int partner = 1; partner < 6; partner++) {
                boolean often = random.nextInt(3) == 0;
                copies[partner][place] = number < lacking ? (often ? 2 : random.nextInt(2)) : (often ? 0 : random.nextInt(2));
            }
        }
        return copies;
    }

    private static void check(SocietyBook book, int[][] copies, int round) {
        int wanted = Integer.bitCount(book.lacks());
        int fewest = SocietyBook.NONE;
        int set = 0;
        for (int partners = 0; partners <= 62; partners += 2) {
            int most = new Search(copies, partners).most();
            Due.is("32: round " + round + ", swaps(" + partners + ")", book.swaps(partners), most);
            if (most == wanted && (fewest == SocietyBook.NONE || Integer.bitCount(partners) < fewest)) {
                fewest = Integer.bitCount(partners);
                set = partners;
            }
        }
        Due.is("33: round " + round + ", whole()", book.whole(), fewest);
        Due.is("33: round " + round + ", asked()", book.asked(), set);
    }

    /** Goes through the numbers that lack, and for each tries every swap, and none. */
    private static final class Search {
        private final int[][] copies;
        private final int partners;
        private final int[] spare = new int[NUMBERS];
        private final boolean[][] got = new boolean[6][NUMBERS];
        private final Map<String, Integer> seen = new HashMap<>();

        Search(int[][] copies, int partners) {
            this.copies = copies;
            this.partners = partners;
            for (int number = 0; number < NUMBERS; number++) {
                spare[number] = copies[0][number] - 1;
            }
        }

        int most() {
            return from(0);
        }

        private int from(int number) {
            if (number == NUMBERS) {
                return 0;
            }
            if (copies[0][number] != 0) {
                return from(number + 1);
            }
            String state = number + java.util.Arrays.toString(spare) + java.util.Arrays.deepToString(got);
            Integer known = seen.get(state);
            if (known != null) {
                return known;
            }
            int best = from(number + 1);
            for (int partner = 1; partner < 6; partner++) {
                if ((partners >> partner & 1) == 1 && copies[partner][number] > 1) {
                    best = Math.max(best, against(number, partner));
                }
            }
            seen.put(state, best);
            return best;
        }

        private int against(int number, int partner) {
            int best = 0;
            for (int other = 0; other < NUMBERS; other++) {
                if (spare[other] > 0 && copies[partner][other] == 0 && !got[partner][other]) {
                    spare[other]--;
                    got[partner][other] = true;
                    best = Math.max(best, 1 + from(number + 1));
                    got[partner][other] = false;
                    spare[other]++;
                }
            }
            return best;
        }
    }
}
