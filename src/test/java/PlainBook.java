import java.util.ArrayList;
import java.util.Arrays;
import java.util.HashMap;
import java.util.List;
import java.util.Map;

/** What the document says, as plainly as can be: all that is told is kept in lists, and each answer goes through them. */
final class PlainBook {
    private static final int BAD = -1, FULL = -2, FINDING = -3, STATE = -4, NONE = -9;
    private static final int NOTHING = 1, BEYOND = 2, UNLIKE = 3, NOUGHT = 4, SIZE = 5;

    private record Paper(int kind, int author, int claims, int told, int sent, int from, int to) {
    }

    private record Note(int paper, int what, int day, int told) {
    }

    private record Statute(int day, int what, boolean sealed) {
    }

    private record Byelaw(int day, int h, int p, int b, int u, int l) {
    }

    private record Award(int medal, int fellow, int day) {
    }

    private int today = 0;
    private int fellows = 0;
    private final int[][] posts = new int[6][2];
    private final List<Paper> papers = new ArrayList<>();
    private final List<Note> notes = new ArrayList<>();
    private final Map<Integer, Integer> opened = new HashMap<>();
    private final List<Statute> statutes = new ArrayList<>();
    private final List<Byelaw> byelaws = new ArrayList<>();
    private final List<int[]> candidates = new ArrayList<>();
    private final int[][] medals = {{0, 30000}, {0, 30000}, {0, 30000}, {0, 30000}};
    private final List<Award> awards = new ArrayList<>();
    private final int[][] copies = new int[6][12];
    private final byte[][] sheets = new byte[4][];
    private int asked = 0;
    private final List<Integer> findings = new ArrayList<>();

    private static boolean in(int n, int least, int most) {
        return least <= n && n <= most;
    }

    private int found(int finding) {
        findings.add(finding);
        return FINDING;
    }

    public int later(int n) {
        if (n < 0 || (long) today + n > 30000) {
            return BAD;
        }
        return today += n;
    }

    public int fellow() {
        return fellows == 16 ? FULL : fellows++;
    }

    public int post(int p, int least, int most) {
        if (!in(p, 0, 5) || !in(least, 0, 500) || !in(most, 0, 500) || least > most) {
            return BAD;
        }
        posts[p] = new int[] {least, most};
        return 1;
    }

    public int paper(int kind, int author, int claims, int sent, int post) {
        if (!in(kind, 0, 2) || !in(author, 0, fellows - 1) || !in(claims, 0, 65535)) {
            return BAD;
        }
        if (kind == 2 && (!in(sent, 0, today) || !in(post, 0, 5))) {
            return BAD;
        }
        if (papers.size() == 24) {
            return FULL;
        }
        int[] takes = kind == 2 ? posts[post] : new int[2];
        papers.add(new Paper(kind, author, claims, today, sent, sent + takes[0], sent + takes[1]));
        return papers.size() - 1;
    }

    public int note(int paper, int what, int day) {
        if (!in(paper, 0, papers.size() - 1) || !in(what, 0, 2) || !in(day, 0, today)) {
            return BAD;
        }
        if (notes.size() == 100) {
            return FULL;
        }
        notes.add(new Note(paper, what, day, today));
        if (!lastNotesGo(paper)) {
            notes.remove(notes.size() - 1);
            return STATE;
        }
        return notes.size();
    }

    private boolean lastNotesGo(int paper) {
        int received = last(paper, 0, today);
        int read = last(paper, 1, today);
        int printed = last(paper, 2, today);
        Paper of = papers.get(paper);
        boolean inSpan = of.kind != 2 || received == NONE || in(received, of.from, of.to);
        boolean readGoes = read == NONE || received != NONE && received <= read;
        boolean printedGoes = printed == NONE || read != NONE && read <= printed;
        return inSpan && readGoes && printedGoes;
    }

    private int last(int paper, int what, int k) {
        int day = NONE;
        for (Note note : notes) {
            if (note.paper == paper && note.what == what && note.told <= k) {
                day = note.day;
            }
        }
        return day;
    }

    public int open(int paper, int a, int b) {
        if (!in(paper, 0, papers.size() - 1) || !in(a, 0, fellows - 1) || !in(b, 0, fellows - 1)) {
            return BAD;
        }
        int author = papers.get(paper).author;
        if (a == b || a == author || b == author) {
            return BAD;
        }
        if (papers.get(paper).kind != 1) {
            return found(UNLIKE);
        }
        return opened.putIfAbsent(paper, today) == null ? 1 : STATE;
    }

    public int told(int paper, int what) {
        if (!in(paper, 0, papers.size() - 1) || !in(what, 0, 6)) {
            return BAD;
        }
        Paper of = papers.get(paper);
        int[] tells = {of.kind, of.author, of.claims, of.told, last(paper, 0, today), last(paper, 1, today), last(paper, 2, today)};
        return tells[what];
    }

    public int mark(int paper, int kind) {
        if (!in(paper, 0, papers.size() - 1) || !in(kind, 0, 2)) {
            return BAD;
        }
        Paper of = papers.get(paper);
        if (kind != 0 && kind != of.kind) {
            return found(UNLIKE);
        }
        int[] tells = {Integer.bitCount(of.claims), opened.getOrDefault(paper, NONE), of.sent};
        return tells[kind];
    }

    public int known(int paper, int what, int k) {
        return in(paper, 0, papers.size() - 1) && in(what, 0, 2) && in(k, 0, 30000) ? last(paper, what, k) : BAD;
    }

    public int statute(int day, int what, boolean sealed) {
        if (!in(day, 0, 30000) || !in(what, 0, 2)) {
            return BAD;
        }
        if (statutes.size() == 12) {
            return FULL;
        }
        statutes.add(new Statute(day, what, sealed));
        return statutes.size() - 1;
    }

    public int force(int day) {
        return in(day, 0, 30000) ? inForce(statutes.stream().mapToInt(Statute::day).toArray(), day) : BAD;
    }

    private static int inForce(int[] from, int day) {
        for (int d = day; d >= 0; d--) {
            for (int i = from.length - 1; i >= 0; i--) {
                if (from[i] == d) {
                    return i;
                }
            }
        }
        return NONE;
    }

    public int when(int paper, int statute, int k, boolean late) {
        if (!in(paper, 0, papers.size() - 1) || !in(statute, 0, statutes.size() - 1) || !in(k, 0, 30000)) {
            return BAD;
        }
        Paper of = papers.get(paper);
        Statute by = statutes.get(statute);
        if (of.kind == 1 && by.sealed && opened.containsKey(paper) && opened.get(paper) <= k) {
            return of.told;
        }
        int noted = last(paper, by.what, k);
        if (noted == NONE && by.what == 0 && of.kind == 2 && of.told <= k) {
            return late ? of.to : of.from;
        }
        return noted;
    }

    public int first(int claim, int day, int k) {
        if (!in(claim, 0, 15) || !in(day, 0, 30000) || !in(k, 0, 30000)) {
            return BAD;
        }
        int statute = force(day);
        if (statute == NONE) {
            return STATE;
        }
        List<Integer> proved = new ArrayList<>();
        for (int paper = 0; paper < papers.size(); paper++) {
            if ((papers.get(paper).claims & 1 << claim) != 0 && when(paper, statute, k, true) != NONE) {
                proved.add(paper);
            }
        }
        int least = proved.stream().mapToInt(paper -> when(paper, statute, k, true)).min().orElse(0);
        asked = proved.stream().filter(paper -> when(paper, statute, k, false) <= least).mapToInt(paper -> 1 << paper).sum();
        return Integer.bitCount(asked);
    }

    public int mean() {
        List<Integer> between = new ArrayList<>();
        for (int paper = 0; paper < papers.size(); paper++) {
            if (told(paper, 4) != NONE && told(paper, 5) != NONE) {
                between.add(told(paper, 5) - told(paper, 4));
            }
        }
        return between.isEmpty() ? found(NOUGHT) : between.stream().mapToInt(days -> days).sum() / between.size();
    }

    public int byelaw(int day, int h, int p, int b, int u, int l) {
        if (!in(day, 0, 30000) || !in(h, 0, 500) || !in(p, 0, 16) || !in(b, 0, 100) || !in(l, 1, 100) || !in(u, 0, l)) {
            return BAD;
        }
        if (byelaws.size() == 12) {
            return FULL;
        }
        byelaws.add(new Byelaw(day, h, p, b, u, l));
        return byelaws.size() - 1;
    }

    public int candidate(int proposers) {
        if (proposers < 0 || proposers >> fellows != 0) {
            return BAD;
        }
        if (candidates.size() == 20) {
            return FULL;
        }
        candidates.add(new int[] {proposers, today});
        return candidates.size() - 1;
    }

    public int propose(int candidate, int fellow) {
        if (!in(candidate, 0, candidates.size() - 1) || !in(fellow, 0, fellows - 1)) {
            return BAD;
        }
        if (candidates.get(candidate) == null) {
            return found(NOTHING);
        }
        candidates.get(candidate)[0] |= 1 << fellow;
        return Integer.bitCount(candidates.get(candidate)[0]);
    }

    public int withdraw(int candidate) {
        if (!in(candidate, 0, candidates.size() - 1)) {
            return BAD;
        }
        return candidates.set(candidate, null) == null ? found(NOTHING) : 1;
    }

    public int ballot(int candidate, int white, int black) {
        if (!in(candidate, 0, candidates.size() - 1) || !in(white, 0, 1000) || !in(black, 0, 1000)) {
            return BAD;
        }
        int number = inForce(byelaws.stream().mapToInt(Byelaw::day).toArray(), today);
        if (number == NONE) {
            return STATE;
        }
        if (fellows == 16) {
            return FULL;
        }
        if (candidates.get(candidate) == null) {
            return found(NOTHING);
        }
        int bar = bar(byelaws.get(number), candidates.get(candidate), white, black);
        if (bar == 1) {
            candidates.set(candidate, null);
            asked = fellows++;
        }
        return bar;
    }

    private int bar(Byelaw by, int[] candidate, int white, int black) {
        if (candidate[1] + by.h > today) {
            return 2;
        }
        if (Integer.bitCount(candidate[0]) < by.p) {
            return 3;
        }
        if (black > by.b) {
            return 4;
        }
        return white + black > 0 && white * by.l >= (white + black) * by.u ? 1 : 5;
    }

    public int medal(int m, int gap, int within) {
        if (!in(m, 0, 3) || !in(gap, 0, 30000) || !in(within, 0, 30000)) {
            return BAD;
        }
        medals[m] = new int[] {gap, within};
        return 1;
    }

    public int award(int m, int fellow) {
        if (!in(m, 0, 3) || !in(fellow, 0, fellows - 1)) {
            return BAD;
        }
        if (awards.size() == 60) {
            return FULL;
        }
        for (Award award : awards) {
            if (award.medal == m && award.fellow == fellow && today - award.day < medals[m][0]) {
                return 2;
            }
        }
        for (int paper = 0; paper < papers.size(); paper++) {
            int printed = told(paper, 6);
            if (papers.get(paper).author == fellow && printed != NONE && today - printed <= medals[m][1]) {
                awards.add(new Award(m, fellow, today));
                return 1;
            }
        }
        return 3;
    }

    public int medals(int m, int fellow) {
        if (!in(m, 0, 3) || !in(fellow, 0, fellows - 1)) {
            return BAD;
        }
        return (int) awards.stream().filter(award -> award.medal == m && award.fellow == fellow).count();
    }

    public int stock(int holder, int number, int c) {
        int had = copies(holder, number);
        if (had == BAD || !in(c, 0, 9)) {
            return BAD;
        }
        copies[holder][number] = c;
        return had;
    }

    public int copies(int holder, int number) {
        return in(holder, 0, 5) && in(number, 0, 11) ? copies[holder][number] : BAD;
    }

    public int sheet(int s, int n) {
        if (!in(s, 0, 3) || n > 12) {
            return BAD;
        }
        if (n < 0) {
            return found(SIZE);
        }
        sheets[s] = new byte[n];
        return n;
    }

    public int lay(int s, int i, int v) {
        if (!in(s, 0, 3)) {
            return BAD;
        }
        if (sheets[s] == null || !in(i, 0, sheets[s].length - 1)) {
            return found(sheets[s] == null ? NOTHING : BEYOND);
        }
        int was = sheets[s][i];
        sheets[s][i] = (byte) v;
        return was + 1000;
    }

    public int tear(int s) {
        if (!in(s, 0, 3)) {
            return BAD;
        }
        if (sheets[s] == null) {
            return found(NOTHING);
        }
        sheets[s] = null;
        return 1;
    }

    public int copy(int s, int i, int to, int j, int n) {
        if (!in(s, 0, 3) || !in(to, 0, 3)) {
            return BAD;
        }
        if (sheets[s] == null || sheets[to] == null) {
            return found(NOTHING);
        }
        boolean beyond = i < 0 || j < 0 || n < 0 || (long) i + n > sheets[s].length || (long) j + n > sheets[to].length;
        if (beyond) {
            return found(BEYOND);
        }
        byte[] taken = sheets[s].clone();
        for (int at = 0; at < n; at++) {
            sheets[to][j + at] = taken[i + at];
        }
        return 1;
    }

    public int fill(int holder, int s) {
        if (!in(holder, 0, 5) || !in(s, 0, 3)) {
            return BAD;
        }
        if (sheets[s] == null) {
            return found(NOTHING);
        }
        for (int number = 0; number < sheets[s].length; number++) {
            int told = sheets[s][number];
            copies[holder][number] = told < 0 ? 0 : told > 9 ? 9 : told;
        }
        return Arrays.stream(copies[holder]).sum();
    }

    public int lacks() {
        int set = 0;
        for (int number = 0; number < 12; number++) {
            set += copies[0][number] == 0 ? 1 << number : 0;
        }
        return set;
    }

    public int swaps(int partners) {
        return partners < 0 || partners > 62 || partners % 2 == 1 ? BAD : new Exchange(copies, partners).most();
    }

    public int whole() {
        for (int many = 0; many <= 5; many++) {
            for (int set = 0; set <= 62; set += 2) {
                if (Integer.bitCount(set) == many && swaps(set) == Integer.bitCount(lacks())) {
                    asked = set;
                    return many;
                }
            }
        }
        return NONE;
    }

    public int asked() {
        return asked;
    }

    public int count(int what) {
        int[] counts = {today, fellows, papers.size(), notes.size(), statutes.size(), byelaws.size(), candidates.size(), awards.size()};
        return in(what, 0, 7) ? counts[what] : BAD;
    }

    public int finding() {
        return findings.isEmpty() ? 0 : findings.get(findings.size() - 1);
    }

    public int findings(int f) {
        return in(f, 1, 5) ? (int) findings.stream().filter(finding -> finding == f).count() : BAD;
    }

    public long digest() {
        List<Integer> values = new ArrayList<>();
        for (int what = 0; what < 8; what++) {
            values.add(count(what));
        }
        for (int i = 0; i < 7 * papers.size(); i++) {
            values.add(told(i / 7, i % 7));
        }
        candidates.forEach(candidate -> values.add(candidate == null ? -1 : candidate[0]));
        for (int i = 0; i < 72; i++) {
            values.add(copies[i / 12][i % 12]);
        }
        for (byte[] sheet : sheets) {
            values.add(sheet == null ? -1 : sheet.length);
            for (int i = 0; sheet != null && i < sheet.length; i++) {
                values.add((int) sheet[i]);
            }
        }
        long h = 17;
        for (int v : values) {
            h = 31 * h + v;
        }
        return h;
    }
}
