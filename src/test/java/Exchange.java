/**
 * The most swaps by ways that are made one after the other, each of which may take an earlier one back in part:
 * from the beginning to a number that lacks, to a partner, to a number that it takes, to the end.
 */
final class Exchange {
    private static final int BEGIN = 0, LACKING = 1, PARTNERS = 13, SPARE = 19, END = 31, PLACES = 32;

    private final int[][] room = new int[PLACES][PLACES];

    Exchange(int[][] copies, int partners) {
        for (int number = 0; number < 12; number++) {
            room[BEGIN][LACKING + number] = copies[0][number] == 0 ? 1 : 0;
            room[SPARE + number][END] = Math.max(0, copies[0][number] - 1);
            for (int partner = 1; partner < 6; partner++) {
                boolean asked = (partners >> partner & 1) == 1;
                room[LACKING + number][PARTNERS + partner] = asked && copies[partner][number] > 1 ? 1 : 0;
                room[PARTNERS + partner][SPARE + number] = asked && copies[partner][number] == 0 ? 1 : 0;
            }
        }
    }

    int most() {
        int swaps = 0;
        while (findsWay(BEGIN, new boolean[PLACES])) {
            swaps++;
        }
        return swaps;
    }

    private boolean findsWay(int at, boolean[] seen) {
        if (at == END) {
            return true;
        }
        seen[at] = true;
        for (int next = 0; next < PLACES; next++) {
            if (room[at][next] > 0 && !seen[next] && findsWay(next, seen)) {
                room[at][next]--;
                room[next][at]++;
                return true;
            }
        }
        return false;
    }
}
