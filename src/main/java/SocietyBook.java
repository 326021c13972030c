/** The book of a learned society: its papers, its elections and medals, and its sets of transactions. */
public final class SocietyBook {
    public static final int BAD = -1, FULL = -2, FINDING = -3, STATE = -4, NONE = -9;

    private static final int NOTHING = 1, BEYOND = 2, UNLIKE = 3, NOUGHT = 4, SIZE = 5;
    private static final int SEALED = 1, LETTER = 2;
    private static final int RECEIVED = 0, READ = 1, PRINTED = 2;
    private static final int DONE = 1, HUNG_TOO_SHORT = 2, PROPOSERS_LACK = 3, TOO_BLACK = 4, TOO_FEW_WHITE = 5;
    private static final int TOO_SOON = 2, NOTHING_PRINTED = 3;

    private static final int LAST_DAY = 30000, LONGEST_WAIT = 500;
    private static final int MOST_FELLOWS = 16, MOST_PAPERS = 24, MOST_NOTES = 100, MOST_RULES = 12;
    private static final int MOST_CANDIDATES = 20, MOST_AWARDS = 60, MOST_BALLS = 1000;
    private static final int MOST_BLACK = 100, MOST_PARTS = 100;
    private static final int POSTS = 6, CLAIMS = 16, MEDALS = 4;
    private static final int HOLDERS = 6, NUMBERS = 12, MOST_COPIES = 9, SHEETS = 4, MOST_BYTES = 12;
    private static final int ALL_PARTNERS = 62;
    private static final int COUNTS = 8, PAPER_TELLS = 7, KINDS_OF_FINDINGS = 5;

    private int today;
    private int fellows;
    private final Post[] posts = new Post[POSTS];
    private final Paper[] papers = new Paper[MOST_PAPERS];
    private int paperCount;
    private int noteCount;
    private final Statute[] statutes = new Statute[MOST_RULES];
    private int statuteCount;
    private final Byelaw[] byelaws = new Byelaw[MOST_RULES];
    private int byelawCount;
    private final Candidate[] candidates = new Candidate[MOST_CANDIDATES];
    private int candidateCount;
    private final Medal[] medalRow = new Medal[MEDALS];
    private int awardCount;
    private final Holdings holdings = new Holdings();
    private final Sheet[] sheets = new Sheet[SHEETS];
    private int lastAsked;
    private int lastFinding;
    private final int[] findingCounts = new int[KINDS_OF_FINDINGS + 1];

    public SocietyBook() {
        for (int p = 0; p < POSTS; p++) {
            posts[p] = new Post();
        }
        for (int m = 0; m < MEDALS; m++) {
            medalRow[m] = new Medal();
        }
        for (int s = 0; s < SHEETS; s++) {
            sheets[s] = new Sheet();
        }
    }

    // ---- 1 papers

    public int later(int n) {
        if (!isWithin(n, 0, LAST_DAY - today)) {
            return BAD;
        }
        today += n;
        return today;
    }

    public int fellow() {
        if (fellows >= MOST_FELLOWS) {
            return FULL;
        }
        return admitFellow();
    }

    public int post(int p, int least, int most) {
        if (!isWithin(p, 0, POSTS - 1) || !isWithin(most, 0, LONGEST_WAIT) || !isWithin(least, 0, most)) {
            return BAD;
        }
        posts[p].least = least;
        posts[p].most = most;
        return 1;
    }

    public int paper(int kind, int author, int claims, int sent, int post) {
        if (!isWithin(kind, 0, LETTER) || !isFellow(author) || !isWithin(claims, 0, (1 << CLAIMS) - 1)) {
            return BAD;
        }
        if (kind == LETTER && (!isWithin(sent, 0, today) || !isWithin(post, 0, POSTS - 1))) {
            return BAD;
        }
        if (paperCount >= MOST_PAPERS) {
            return FULL;
        }
        Paper told = new Paper(kind, author, claims, today);
        if (kind == LETTER) {
            told.send(sent, posts[post]);
        }
        papers[paperCount] = told;
        paperCount++;
        return paperCount - 1;
    }

    public int note(int paper, int what, int day) {
        Paper of = paperAt(paper);
        if (of == null || !isWithin(what, RECEIVED, PRINTED) || !isWithin(day, 0, today)) {
            return BAD;
        }
        if (noteCount >= MOST_NOTES) {
            return FULL;
        }
        if (!of.admits(what, day)) {
            return STATE;
        }
        of.lastNotes[what] = new Note(day, today, of.lastNotes[what]);
        noteCount++;
        return noteCount;
    }

    public int open(int paper, int a, int b) {
        Paper of = paperAt(paper);
        if (of == null || !isFellow(a) || !isFellow(b) || a == b || a == of.author || b == of.author) {
            return BAD;
        }
        if (of.kind != SEALED) {
            return found(UNLIKE);
        }
        if (of.openedOn != NONE) {
            return STATE;
        }
        of.openedOn = today;
        return 1;
    }

    public int told(int paper, int what) {
        Paper of = paperAt(paper);
        if (of == null) {
            return BAD;
        }
        switch (what) {
            case 0: return of.kind;
            case 1: return of.author;
            case 2: return of.claims;
            case 3: return of.toldOn;
            case 4: return of.lastDay(RECEIVED);
            case 5: return of.lastDay(READ);
            case 6: return of.lastDay(PRINTED);
            default: return BAD;
        }
    }

    public int mark(int paper, int kind) {
        Paper of = paperAt(paper);
        if (of == null || !isWithin(kind, 0, LETTER)) {
            return BAD;
        }
        if (kind == 0) {
            return Integer.bitCount(of.claims);
        }
        if (of.kind != kind) {
            return found(UNLIKE);
        }
        return kind == SEALED ? of.openedOn : of.sentOn;
    }

    public int known(int paper, int what, int k) {
        Paper of = paperAt(paper);
        if (of == null || !isWithin(what, RECEIVED, PRINTED) || !isDay(k)) {
            return BAD;
        }
        return of.dayKnown(what, k);
    }

    public int statute(int day, int what, boolean sealed) {
        if (!isDay(day) || !isWithin(what, RECEIVED, PRINTED)) {
            return BAD;
        }
        if (statuteCount >= MOST_RULES) {
            return FULL;
        }
        statutes[statuteCount] = new Statute(day, what, sealed);
        statuteCount++;
        return statuteCount - 1;
    }

    public int force(int day) {
        if (!isDay(day)) {
            return BAD;
        }
        return inForce(statutes, statuteCount, day);
    }

    public int when(int paper, int statute, int k, boolean late) {
        Paper of = paperAt(paper);
        if (of == null || !isWithin(statute, 0, statuteCount - 1) || !isDay(k)) {
            return BAD;
        }
        return of.proved(statutes[statute], k, late);
    }

    public int first(int claim, int day, int k) {
        if (!isWithin(claim, 0, CLAIMS - 1) || !isDay(day) || !isDay(k)) {
            return BAD;
        }
        int number = inForce(statutes, statuteCount, day);
        if (number == NONE) {
            return STATE;
        }
        lastAsked = firstWith(claim, statutes[number], k);
        return Integer.bitCount(lastAsked);
    }

    public int mean() {
        int days = 0;
        int among = 0;
        for (int i = 0; i < paperCount; i++) {
            // A paper that was read was received, too: no last note stands without that ahead of it.
            if (papers[i].lastDay(READ) != NONE) {
                days += papers[i].lastDay(READ) - papers[i].lastDay(RECEIVED);
                among++;
            }
        }
        if (among == 0) {
            return found(NOUGHT);
        }
        return days / among;
    }

    // ---- 2 elections, medals

    public int byelaw(int day, int h, int p, int b, int u, int l) {
        if (!isDay(day) || !isWithin(h, 0, LONGEST_WAIT) || !isWithin(p, 0, MOST_FELLOWS)) {
            return BAD;
        }
        if (!isWithin(b, 0, MOST_BLACK) || !isWithin(l, 1, MOST_PARTS) || !isWithin(u, 0, l)) {
            return BAD;
        }
        if (byelawCount >= MOST_RULES) {
            return FULL;
        }
        byelaws[byelawCount] = new Byelaw(day, h, p, b, u, l);
        byelawCount++;
        return byelawCount - 1;
    }

    public int candidate(int proposers) {
        if (!isWithin(proposers, 0, (1 << fellows) - 1)) {
            return BAD;
        }
        if (candidateCount >= MOST_CANDIDATES) {
            return FULL;
        }
        candidates[candidateCount] = new Candidate(proposers, today);
        candidateCount++;
        return candidateCount - 1;
    }

    public int propose(int candidate, int fellow) {
        Candidate of = candidateAt(candidate);
        if (of == null || !isFellow(fellow)) {
            return BAD;
        }
        if (of.missing) {
            return found(NOTHING);
        }
        of.proposers |= 1 << fellow;
        return Integer.bitCount(of.proposers);
    }

    public int withdraw(int candidate) {
        Candidate of = candidateAt(candidate);
        if (of == null) {
            return BAD;
        }
        if (of.missing) {
            return found(NOTHING);
        }
        of.missing = true;
        return 1;
    }

    public int ballot(int candidate, int white, int black) {
        Candidate of = candidateAt(candidate);
        if (of == null || !isWithin(white, 0, MOST_BALLS) || !isWithin(black, 0, MOST_BALLS)) {
            return BAD;
        }
        int number = inForce(byelaws, byelawCount, today);
        if (number == NONE) {
            return STATE;
        }
        if (fellows >= MOST_FELLOWS) {
            return FULL;
        }
        if (of.missing) {
            return found(NOTHING);
        }
        int outcome = byelaws[number].outcome(of, today, white, black);
        if (outcome == DONE) {
            of.missing = true;
            lastAsked = admitFellow();
        }
        return outcome;
    }

    public int medal(int m, int gap, int within) {
        if (!isWithin(m, 0, MEDALS - 1) || !isDay(gap) || !isDay(within)) {
            return BAD;
        }
        medalRow[m].gap = gap;
        medalRow[m].within = within;
        return 1;
    }

    public int award(int m, int fellow) {
        if (!isWithin(m, 0, MEDALS - 1) || !isFellow(fellow)) {
            return BAD;
        }
        if (awardCount >= MOST_AWARDS) {
            return FULL;
        }
        Medal medal = medalRow[m];
        if (medal.hadTooSoon(fellow, today)) {
            return TOO_SOON;
        }
        if (!hasPrinted(fellow, medal.within)) {
            return NOTHING_PRINTED;
        }
        medal.times[fellow]++;
        medal.lastDays[fellow] = today;
        awardCount++;
        return DONE;
    }

    public int medals(int m, int fellow) {
        if (!isWithin(m, 0, MEDALS - 1) || !isFellow(fellow)) {
            return BAD;
        }
        return medalRow[m].times[fellow];
    }

    // ---- 3 sets

    public int stock(int holder, int number, int c) {
        if (!isPlace(holder, number) || !isWithin(c, 0, MOST_COPIES)) {
            return BAD;
        }
        int had = holdings.rows[holder][number];
        holdings.rows[holder][number] = c;
        return had;
    }

    public int copies(int holder, int number) {
        if (!isPlace(holder, number)) {
            return BAD;
        }
        return holdings.rows[holder][number];
    }

    public int sheet(int s, int n) {
        if (!isSheet(s) || n > MOST_BYTES) {
            return BAD;
        }
        if (n < 0) {
            return found(SIZE);
        }
        sheets[s].renew(n);
        return n;
    }

    public int lay(int s, int i, int v) {
        if (!isSheet(s)) {
            return BAD;
        }
        Sheet on = sheets[s];
        if (on.missing) {
            return found(NOTHING);
        }
        if (!isWithin(i, 0, on.size - 1)) {
            return found(BEYOND);
        }
        int was = on.bytes[i];
        on.bytes[i] = (byte) v;
        return was + 1000;
    }

    public int tear(int s) {
        if (!isSheet(s)) {
            return BAD;
        }
        if (sheets[s].missing) {
            return found(NOTHING);
        }
        sheets[s].missing = true;
        return 1;
    }

    public int copy(int s, int i, int to, int j, int n) {
        if (!isSheet(s) || !isSheet(to)) {
            return BAD;
        }
        Sheet from = sheets[s];
        Sheet onto = sheets[to];
        if (from.missing || onto.missing) {
            return found(NOTHING);
        }
        if (!from.hasRun(i, n) || !onto.hasRun(j, n)) {
            return found(BEYOND);
        }
        System.arraycopy(from.bytes, i, onto.bytes, j, n);
        return 1;
    }

    public int fill(int holder, int s) {
        if (!isWithin(holder, 0, HOLDERS - 1) || !isSheet(s)) {
            return BAD;
        }
        if (sheets[s].missing) {
            return found(NOTHING);
        }
        return holdings.take(holder, sheets[s]);
    }

    public int lacks() {
        return holdings.lacking();
    }

    public int swaps(int partners) {
        if ((partners & ~ALL_PARTNERS) != 0) {
            return BAD;
        }
        holdings.weigh();
        return holdings.mostSwaps(partners);
    }

    public int whole() {
        int wanted = Integer.bitCount(holdings.lacking());
        holdings.weigh();
        int best = NONE;
        int set = 0;
        for (int partners = 0; partners <= ALL_PARTNERS; partners += 2) {
            int size = Integer.bitCount(partners);
            // Sets come with rising bits, so that the first of alike ones stays.
            if ((best == NONE || size < best) && holdings.mostSwaps(partners) == wanted) {
                best = size;
                set = partners;
            }
        }
        if (best != NONE) {
            lastAsked = set;
        }
        return best;
    }

    // ---- 4 what is told

    public int asked() {
        return lastAsked;
    }

    public int count(int what) {
        switch (what) {
            case 0: return today;
            case 1: return fellows;
            case 2: return paperCount;
            case 3: return noteCount;
            case 4: return statuteCount;
            case 5: return byelawCount;
            case 6: return candidateCount;
            case 7: return awardCount;
            default: return BAD;
        }
    }

    public int finding() {
        return lastFinding;
    }

    public int findings(int f) {
        if (!isWithin(f, 1, KINDS_OF_FINDINGS)) {
            return BAD;
        }
        return findingCounts[f];
    }

    public long digest() {
        long h = 17;
        for (int what = 0; what < COUNTS; what++) {
            h = mixed(h, count(what));
        }
        h = withPapers(h);
        for (int i = 0; i < candidateCount; i++) {
            h = mixed(h, candidates[i].missing ? -1 : candidates[i].proposers);
        }
        h = withHoldings(h);
        for (int s = 0; s < SHEETS; s++) {
            h = sheets[s].mixedInto(h);
        }
        return h;
    }

    // ---- what the calls share

    private static boolean isWithin(int n, int least, int most) {
        return n >= least && n <= most;
    }

    private static boolean isDay(int day) {
        return isWithin(day, 0, LAST_DAY);
    }

    private static boolean isPlace(int holder, int number) {
        return isWithin(holder, 0, HOLDERS - 1) && isWithin(number, 0, NUMBERS - 1);
    }

    private static boolean isSheet(int s) {
        return isWithin(s, 0, SHEETS - 1);
    }

    private boolean isFellow(int fellow) {
        return isWithin(fellow, 0, fellows - 1);
    }

    private Paper paperAt(int number) {
        return isWithin(number, 0, paperCount - 1) ? papers[number] : null;
    }

    private Candidate candidateAt(int number) {
        return isWithin(number, 0, candidateCount - 1) ? candidates[number] : null;
    }

    private int admitFellow() {
        fellows++;
        return fellows - 1;
    }

    private int found(int finding) {
        lastFinding = finding;
        findingCounts[finding]++;
        return FINDING;
    }

    private static int inForce(Rule[] rules, int ruleCount, int day) {
        int best = NONE;
        for (int i = 0; i < ruleCount; i++) {
            // Not before, rather than after: of alike days the last told is in force.
            if (rules[i].from <= day && (best == NONE || rules[i].from >= rules[best].from)) {
                best = i;
            }
        }
        return best;
    }

    private int firstWith(int claim, Statute statute, int k) {
        int limit = leastLatest(claim, statute, k);
        int set = 0;
        for (int i = 0; i < paperCount; i++) {
            int earliest = papers[i].provedWith(claim, statute, k, false);
            if (earliest != NONE && earliest <= limit) {
                set |= 1 << i;
            }
        }
        return set;
    }

    private int leastLatest(int claim, Statute statute, int k) {
        int least = LAST_DAY + LONGEST_WAIT;
        for (int i = 0; i < paperCount; i++) {
            int latest = papers[i].provedWith(claim, statute, k, true);
            if (latest != NONE) {
                least = Math.min(least, latest);
            }
        }
        return least;
    }

    private boolean hasPrinted(int fellow, int within) {
        for (int i = 0; i < paperCount; i++) {
            int printed = papers[i].lastDay(PRINTED);
            if (papers[i].author == fellow && printed != NONE && today - printed <= within) {
                return true;
            }
        }
        return false;
    }

    private static long mixed(long h, int v) {
        return 31 * h + v;
    }

    private long withPapers(long start) {
        long h = start;
        for (int i = 0; i < paperCount; i++) {
            for (int what = 0; what < PAPER_TELLS; what++) {
                h = mixed(h, told(i, what));
            }
        }
        return h;
    }

    private long withHoldings(long start) {
        long h = start;
        for (int holder = 0; holder < HOLDERS; holder++) {
            for (int number = 0; number < NUMBERS; number++) {
                h = mixed(h, copies(holder, number));
            }
        }
        return h;
    }

    /** How many days a post takes. */
    private static final class Post {
        int least;
        int most;
    }

    /** What was told of one event of a paper, and on which day; it puts the earlier note right. */
    private static final class Note {
        final int day;
        final int toldOn;
        final Note earlier;

        Note(int day, int toldOn, Note earlier) {
            this.day = day;
            this.toldOn = toldOn;
            this.earlier = earlier;
        }
    }

    /** A paper of any kind, with its notes: for each event a chain from the last told one back. */
    private static final class Paper {
        final int kind;
        final int author;
        final int claims;
        final int toldOn;
        int sentOn = NONE;
        int spanStart = NONE;
        int spanEnd = NONE;
        int openedOn = NONE;
        final Note[] lastNotes = new Note[PRINTED + 1];

        Paper(int kind, int author, int claims, int toldOn) {
            this.kind = kind;
            this.author = author;
            this.claims = claims;
            this.toldOn = toldOn;
        }

        /** The span is fixed here, as later changes of the post do not touch a letter that was told. */
        void send(int day, Post by) {
            sentOn = day;
            spanStart = day + by.least;
            spanEnd = day + by.most;
        }

        int lastDay(int what) {
            Note last = lastNotes[what];
            return last == null ? NONE : last.day;
        }

        int dayKnown(int what, int k) {
            Note at = lastNotes[what];
            while (at != null && at.toldOn > k) {
                at = at.earlier;
            }
            return at == null ? NONE : at.day;
        }

        /** Whether the last notes would still go in their order if this one were the last of its event. */
        boolean admits(int what, int day) {
            if (what == RECEIVED && kind == LETTER && !isWithin(day, spanStart, spanEnd)) {
                return false;
            }
            if (what > RECEIVED) {
                int ahead = lastDay(what - 1);
                if (ahead == NONE || day < ahead) {
                    return false;
                }
            }
            int behind = what < PRINTED ? lastDay(what + 1) : NONE;
            return behind == NONE || day <= behind;
        }

        int proved(Statute by, int k, boolean late) {
            if (by.sealed && openedOn != NONE && openedOn <= k) {
                return toldOn;
            }
            int day = dayKnown(by.what, k);
            if (day != NONE) {
                return day;
            }
            if (by.what == RECEIVED && kind == LETTER && toldOn <= k) {
                return late ? spanEnd : spanStart;
            }
            return NONE;
        }

        int provedWith(int claim, Statute by, int k, boolean late) {
            return (claims >> claim & 1) == 0 ? NONE : proved(by, k, late);
        }
    }

    /** What is in force from a day on. */
    private abstract static class Rule {
        final int from;

        Rule(int from) {
            this.from = from;
        }
    }

    /** What counts as proof of having been first. */
    private static final class Statute extends Rule {
        final int what;
        final boolean sealed;

        Statute(int from, int what, boolean sealed) {
            super(from);
            this.what = what;
            this.sealed = sealed;
        }
    }

    /** What an election asks for; of all balls at least whiteParts by allParts are white. */
    private static final class Byelaw extends Rule {
        final int hangs;
        final int leastProposers;
        final int mostBlack;
        final int whiteParts;
        final int allParts;

        Byelaw(int from, int hangs, int leastProposers, int mostBlack, int whiteParts, int allParts) {
            super(from);
            this.hangs = hangs;
            this.leastProposers = leastProposers;
            this.mostBlack = mostBlack;
            this.whiteParts = whiteParts;
            this.allParts = allParts;
        }

        int outcome(Candidate of, int day, int white, int black) {
            if (day - of.hungOn < hangs) {
                return HUNG_TOO_SHORT;
            }
            if (Integer.bitCount(of.proposers) < leastProposers) {
                return PROPOSERS_LACK;
            }
            if (black > mostBlack) {
                return TOO_BLACK;
            }
            int balls = white + black;
            if (balls == 0 || white * allParts < whiteParts * balls) {
                return TOO_FEW_WHITE;
            }
            return DONE;
        }
    }

    /** A certificate that hangs; missing once it is withdrawn or elected. */
    private static final class Candidate {
        int proposers;
        final int hungOn;
        boolean missing;

        Candidate(int proposers, int hungOn) {
            this.proposers = proposers;
            this.hungOn = hungOn;
        }
    }

    /** A medal, and for each fellow how often and when last it was had. */
    private static final class Medal {
        int gap;
        int within = LAST_DAY;
        final int[] times = new int[MOST_FELLOWS];
        final int[] lastDays = new int[MOST_FELLOWS];

        boolean hadTooSoon(int fellow, int day) {
            return times[fellow] > 0 && day - lastDays[fellow] < gap;
        }
    }

    /** A row of bytes; the array is made once and used again. */
    private static final class Sheet {
        boolean missing = true;
        int size;
        final byte[] bytes = new byte[MOST_BYTES];

        void renew(int n) {
            missing = false;
            size = n;
            for (int i = 0; i < MOST_BYTES; i++) {
                bytes[i] = 0;
            }
        }

        /** Whether there are n bytes from a place on; the difference, unlike the sum, can't wrap around. */
        boolean hasRun(int place, int n) {
            return isWithin(n, 0, size) && isWithin(place, 0, size - n);
        }

        long mixedInto(long start) {
            if (missing) {
                return mixed(start, -1);
            }
            long h = mixed(start, size);
            for (int i = 0; i < size; i++) {
                h = mixed(h, bytes[i]);
            }
            return h;
        }
    }

    /**
     * The copies of each holder. The most swaps are a greatest flow: from each number that the society lacks
     * (once) to a partner that can give it, from there to a number that this partner takes (once), and on as
     * often as the society can spare that. A greatest flow is as large as the least cut, and a cut is told by
     * which partners stand before it: those are cut behind (what they take), the others ahead (what they give).
     */
    private static final class Holdings {
        final int[][] rows = new int[HOLDERS][NUMBERS];
        private final int[] given = new int[ALL_PARTNERS + 1];
        private final int[] taken = new int[ALL_PARTNERS + 1];

        int lacking() {
            int set = 0;
            for (int number = 0; number < NUMBERS; number++) {
                if (rows[0][number] == 0) {
                    set |= 1 << number;
                }
            }
            return set;
        }

        int take(int holder, Sheet from) {
            int all = 0;
            for (int number = 0; number < NUMBERS; number++) {
                if (number < from.size) {
                    rows[holder][number] = Math.max(0, Math.min(MOST_COPIES, from.bytes[number]));
                }
                all += rows[holder][number];
            }
            return all;
        }

        /** Tells for each set of partners how much it can give, and how much it can take, at most. */
        void weigh() {
            for (int set = 0; set <= ALL_PARTNERS; set += 2) {
                given[set] = 0;
                taken[set] = 0;
            }
            for (int number = 0; number < NUMBERS; number++) {
                weighNumber(number);
            }
        }

        private void weighNumber(int number) {
            int own = rows[0][number];
            int spare = Math.max(0, own - 1);
            int givers = own == 0 ? partnersHaving(number, 2, MOST_COPIES) : 0;
            int takers = partnersHaving(number, 0, 0);
            for (int set = 0; set <= ALL_PARTNERS; set += 2) {
                if ((givers & set) != 0) {
                    given[set]++;
                }
                taken[set] += Math.min(spare, Integer.bitCount(takers & set));
            }
        }

        private int partnersHaving(int number, int least, int most) {
            int set = 0;
            for (int partner = 1; partner < HOLDERS; partner++) {
                if (isWithin(rows[partner][number], least, most)) {
                    set |= 1 << partner;
                }
            }
            return set;
        }

        int mostSwaps(int partners) {
            int least = NUMBERS;
            for (int before = 0; before <= ALL_PARTNERS; before += 2) {
                if ((before & ~partners) == 0) {
                    least = Math.min(least, taken[before] + given[partners & ~before]);
                }
            }
            return least;
        }
    }
}
