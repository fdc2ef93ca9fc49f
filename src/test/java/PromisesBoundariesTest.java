import java.util.Arrays;

/**
 * A test for each sentence of the promises that names a boundary case, with what is just below it, at it and just
 * above it. The words that were "found by a search" were looked for once, by trying all in turn.
 */
public final class PromisesBoundariesTest extends LedgerChecks {
    public static void main(String[] args) {
        PromisesBoundariesTest test = new PromisesBoundariesTest();
        test.pendingEntry();
        test.mining();
        test.commits();
        test.entries();
        test.drops();
        test.words();
        test.audits();
        test.faults();
        test.ways();
        test.proofs();
        test.checks();
        test.end();
    }

    // ---- promises 1 to 5

    private void pendingEntry() {
        newBelowAndAbove();
        putEight();
        takeBackNotSoMany();
        takeBackBelowOne();
        pendingNoneSuch();
        difficultyRange();
    }

    private void newBelowAndAbove() {
        about("1: No entries");
        due("count()", new MinedLedger(0).count(), 0);
        due("cell(0, 0)", new MinedLedger(0).cell(0, 0), 0);
        about("1: below 0 counts as 0");
        for (int[] row : new int[][] {{LOWEST, 0}, {-2, 0}, {-1, 0}, {0, 0}, {1, 1}}) {
            MinedLedger x = new MinedLedger(row[0]);
            if (row[1] == 0) {
                due("mine(1) with difficulty " + row[0], x.mine(1), 0);
            }
            due("difficulty(5) after " + row[0], x.difficulty(5), row[1]);
        }
        about("1: above 20 as 20");
        for (int[] row : new int[][] {{19, 19}, {20, 20}, {21, 20}, {22, 20}, {HIGHEST, 20}}) {
            MinedLedger x = new MinedLedger(row[0]);
            x.put(107898);
            if (row[1] == 20) {
                // Found by a search: the first nonce that gives this word 20 zeros.
                due("mine(3000) with difficulty " + row[0], x.mine(3000), 2277);
            }
            due("difficulty(5) after " + row[0], x.difficulty(5), row[1]);
        }
    }

    private void putEight() {
        about("2: REFUSED: it has eight");
        MinedLedger x = new MinedLedger(0);
        for (int k = 1; k <= 7; k++) {
            due("put(" + k + ")", x.put(k), k);
        }
        due("put(8), the eighth", x.put(8), 8);
        due("put(9), the ninth", x.put(9), REFUSED);
        due("put(9) again", x.put(9), REFUSED);
        for (int i = 0; i < 8; i++) {
            due("pending(" + i + ")", x.pending(i), i + 1);
        }
        due("takeBack(1)", x.takeBack(1), 7);
        due("put(10)", x.put(10), 8);
        due("pending(7)", x.pending(7), 10);
    }

    private void takeBackNotSoMany() {
        about("3: BAD: it has not so many");
        for (int words = 0; words <= 8; words++) {
            MinedLedger x = new MinedLedger(0);
            for (int k = 0; k < words; k++) {
                x.put(5 + k);
            }
            for (int n : new int[] {words + 1, words + 2, 9, HIGHEST}) {
                due("takeBack(" + n + ") of " + words, x.takeBack(n), BAD);
            }
            due("pending(" + (words - 1) + ")", x.pending(words - 1), words == 0 ? 0 : 4 + words);
            if (words > 1) {
                due("takeBack(" + (words - 1) + ") of " + words, x.takeBack(words - 1), 1);
                due("pending(0)", x.pending(0), 5);
                due("pending(1)", x.pending(1), 0);
                due("takeBack(2) of 1", x.takeBack(2), BAD);
                due("takeBack(1) of 1", x.takeBack(1), 0);
            } else if (words == 1) {
                due("takeBack(1) of 1", x.takeBack(1), 0);
            }
            due("takeBack(1) of 0", x.takeBack(1), BAD);
            due("put(3)", x.put(3), 1);
        }
        about("3: The PENDING entry's latest n words go");
        MinedLedger x = new MinedLedger(0);
        for (int k = 0; k < 8; k++) {
            x.put(5 + k);
        }
        due("takeBack(8) of 8", x.takeBack(8), 0);
        due("pending(0)", x.pending(0), 0);
    }

    private void takeBackBelowOne() {
        about("3: BAD: n is below 1");
        MinedLedger x = new MinedLedger(0);
        x.put(5);
        x.put(6);
        for (int n : new int[] {0, -1, -2, LOWEST}) {
            due("takeBack(" + n + ")", x.takeBack(n), BAD);
        }
        due("pending(1)", x.pending(1), 6);
        due("takeBack(1)", x.takeBack(1), 1);
        due("pending(1)", x.pending(1), 0);
    }

    private void pendingNoneSuch() {
        about("4: 0: there is none such");
        for (int words = 0; words <= 8; words++) {
            // With an entry before and a nonce kept, what stands beside the words is not 0.
            MinedLedger x = grown(1);
            for (int k = 0; k < words; k++) {
                x.put(-1 - k);
            }
            for (int i = 0; i < 8; i++) {
                due("pending(" + i + ") of " + words, x.pending(i), i < words ? -1 - i : 0);
            }
            due("mine(1)", x.mine(1), 0);
            for (int i : new int[] {-1, -2, -16, LOWEST, words, 8, 9, 10, HIGHEST}) {
                due("pending(" + i + ") of " + words, x.pending(i), 0);
            }
        }
    }

    private void difficultyRange() {
        about("5: The DIFFICULTY (0 .. 20): what it was. BAD");
        MinedLedger x = new MinedLedger(7);
        for (int d : new int[] {-1, -2, LOWEST, 21, 22, HIGHEST}) {
            due("difficulty(" + d + ")", x.difficulty(d), BAD);
        }
        due("difficulty(0)", x.difficulty(0), 7);
        due("difficulty(1)", x.difficulty(1), 0);
        due("difficulty(19)", x.difficulty(19), 1);
        due("difficulty(20)", x.difficulty(20), 19);
        due("difficulty(20) again", x.difficulty(20), 20);
        due("difficulty(21)", x.difficulty(21), BAD);
        due("difficulty(0)", x.difficulty(0), 20);
        due("difficulty(-1)", x.difficulty(-1), BAD);
        due("mine(1) of what stayed", x.mine(1), 0);
    }

    // ---- promises 6 and 7

    private void mining() {
        mineRange();
        mineKeptAlready();
        mineNoneOfThem();
        mineAllTried();
        triedSince();
    }

    private void mineRange() {
        about("6: TO MINE with n (1 .. 3000) nonces at most");
        MinedLedger x = new MinedLedger(20);
        for (int n : new int[] {LOWEST, -1, 0, 3001, 3002, 100000, HIGHEST}) {
            due("mine(" + n + ")", x.mine(n), BAD);
            due("tried()", x.tried(), 0);
        }
        int sum = 0;
        for (int n : new int[] {1, 2, 2999, 3000}) {
            sum += n;
            due("mine(" + n + ")", x.mine(n), NONE);
            due("tried() after mine(" + n + ")", x.tried(), sum);
        }
    }

    private void mineKeptAlready() {
        about("6: the nonce that is kept (also if it was already, then none is tried)");
        MinedLedger x = new MinedLedger(20);
        x.put(107898);
        due("mine(2277)", x.mine(2277), NONE);
        due("mine(3000)", x.mine(3000), 2277);
        due("tried()", x.tried(), 2278);
        due("mine(1)", x.mine(1), 2277);
        due("mine(3000)", x.mine(3000), 2277);
        due("mine(0)", x.mine(0), BAD);
        due("mine(3001)", x.mine(3001), BAD);
        due("tried()", x.tried(), 2278);
        due("commit()", x.commit(), 0);
        due("mine(1) of the next one", x.mine(1), NONE);
        due("tried()", x.tried(), 1);
    }

    private void mineNoneOfThem() {
        about("6: NONE: none of them");
        MinedLedger x = new MinedLedger(20);
        x.put(107898);
        due("mine(2276)", x.mine(2276), NONE);
        due("commit()", x.commit(), REFUSED);
        due("mine(1)", x.mine(1), NONE);
        due("commit()", x.commit(), REFUSED);
        due("mine(1)", x.mine(1), 2277);
        due("commit()", x.commit(), 0);
    }

    private void mineAllTried() {
        about("6: REFUSED: all were tried before");
        MinedLedger x = triedInVain(99999);
        due("tried()", x.tried(), 99999);
        due("mine(1), the last one", x.mine(1), NONE);
        due("tried()", x.tried(), 100000);
        due("mine(1)", x.mine(1), REFUSED);
        due("mine(3000)", x.mine(3000), REFUSED);
        due("mine(0)", x.mine(0), BAD);
        due("mine(3001)", x.mine(3001), BAD);
        due("commit()", x.commit(), REFUSED);
        due("tried()", x.tried(), 100000);
        due("difficulty(20)", x.difficulty(20), 20);
        due("mine(1), forgotten", x.mine(1), NONE);
        due("tried()", x.tried(), 1);
        x.difficulty(0);
        due("mine(1) with no zeros asked", x.mine(1), 0);
        mineMoreThanAreLeft();
    }

    private void mineMoreThanAreLeft() {
        for (int left : new int[] {1, 2, 2999, 3000, 3001}) {
            MinedLedger x = triedInVain(100000 - left);
            due("mine(3000) with " + left + " left", x.mine(3000), NONE);
            due("tried()", x.tried(), Math.min(100000, 103000 - left));
            due("mine(3000) again", x.mine(3000), left <= 3000 ? REFUSED : NONE);
            due("tried()", x.tried(), 100000);
        }
    }

    /** No nonce gives the word 1 as many as 20 zeros. */
    private MinedLedger triedInVain(int nonces) {
        MinedLedger x = new MinedLedger(20);
        x.put(1);
        for (int k = 0; k < nonces; k += 3000) {
            due("mine", x.mine(Math.min(3000, nonces - k)), NONE);
        }
        return x;
    }

    private void triedSince() {
        about("7: How many nonces were tried since that was forgotten last");
        MinedLedger x = new MinedLedger(20);
        due("tried() of a new one", x.tried(), 0);
        x.mine(1);
        due("tried()", x.tried(), 1);
        x.mine(3000);
        due("tried()", x.tried(), 3001);
        x.put(1);
        due("tried() after a word", x.tried(), 0);
        x.mine(2);
        due("tried()", x.tried(), 2);
    }

    // ---- promises 8 to 12

    private void commits() {
        about("8: its number; it has no words then");
        MinedLedger x = new MinedLedger(0);
        for (int k = 0; k < 8; k++) {
            x.put(1 + k);
        }
        x.mine(1);
        due("commit()", x.commit(), 0);
        for (int i = 0; i < 8; i++) {
            due("pending(" + i + ")", x.pending(i), 0);
        }
        due("takeBack(1)", x.takeBack(1), BAD);
        due("put(9)", x.put(9), 1);
        about("8: REFUSED: no nonce is kept");
        due("commit()", x.commit(), REFUSED);
        due("count()", x.count(), 1);
        due("pending(0)", x.pending(0), 9);
        due("may(9)", x.may(9), 0);
        due("mine(1)", x.mine(1), 0);
        due("commit()", x.commit(), 1);
        due("commit() of the next one", x.commit(), REFUSED);
        due("count()", x.count(), 2);
        commitFull();
    }

    private void commitFull() {
        about("8: FULL (looked at first)");
        MinedLedger x = grown(59);
        due("commit() of 59 without a nonce", x.commit(), REFUSED);
        append(x, 59);
        int[] head = heads(x);
        due("commit() of 60 without a nonce", x.commit(), FULL);
        x.put(7777);
        due("commit() of 60 with a word", x.commit(), FULL);
        due("mine(1) of 60", x.mine(1), 0);
        due("commit() of 60 with a nonce", x.commit(), FULL);
        due("count()", x.count(), 60);
        due("pending(0)", x.pending(0), 7777);
        due("may(7777)", x.may(7777), 0);
        same("head", heads(x), head);
        due("drop()", x.drop(), 59);
        due("commit() of 59 without a nonce", x.commit(), REFUSED);
        due("mine(1)", x.mine(1), 0);
        due("commit() of 59 with a nonce", x.commit(), 59);
        due("find(7777)", x.find(7777), 59);
        due("commit() of 60", x.commit(), FULL);
    }

    private void entries() {
        counts();
        headNoneSuch();
        cellNoneSuch();
        spoilNoneSuch();
    }

    private void counts() {
        about("9: How many entries there are");
        MinedLedger x = new MinedLedger(0);
        due("count() of a new one", x.count(), 0);
        for (int e = 0; e < 60; e++) {
            append(x, e);
            due("count()", x.count(), e + 1);
        }
        x.mine(1);
        x.commit();
        due("count() of a full one", x.count(), 60);
        for (int e = 59; e >= 0; e--) {
            due("drop()", x.drop(), e);
            due("count()", x.count(), e);
        }
        due("drop()", x.drop(), NONE);
        due("count()", x.count(), 0);
    }

    private void headNoneSuch() {
        about("10: Word i (0 .. 7) of THE HEAD; 0: there is none such");
        MinedLedger x = grown(2);
        int[] hash = Reference.hash(cells(x, 1, 0, 26));
        for (int i = 0; i < 8; i++) {
            due("head(" + i + ")", x.head(i), hash[i]);
        }
        for (int i : new int[] {-1, -8, LOWEST, 8, 9, 33, HIGHEST}) {
            due("head(" + i + ")", x.head(i), 0);
        }
    }

    private void cellNoneSuch() {
        about("11: Cell i of entry e; 0: there is none such");
        MinedLedger x = grown(4);
        // Cells that are not 0 stand on both sides of what is asked.
        for (int e = 0; e < 4; e++) {
            x.spoil(e, 0, 1000 + e);
            x.spoil(e, 33, 1033 + e);
        }
        for (int e = 0; e < 4; e++) {
            due("cell(" + e + ", 0)", x.cell(e, 0), 1000 + e);
            due("cell(" + e + ", 33)", x.cell(e, 33), 1033 + e);
            for (int i : new int[] {-1, -34, LOWEST, 34, 35, HIGHEST}) {
                due("cell(" + e + ", " + i + ")", x.cell(e, i), 0);
            }
        }
        x.drop();
        for (int e : new int[] {-1, -2, LOWEST, 3, 4, 59, 60, 61, HIGHEST}) {
            due("cell(" + e + ", 0)", x.cell(e, 0), 0);
            due("cell(" + e + ", 33)", x.cell(e, 33), 0);
        }
        due("cell(2, 33)", x.cell(2, 33), 1035);
    }

    private void spoilNoneSuch() {
        about("12: what it was. 0: there is none such");
        MinedLedger x = grown(4);
        x.drop();
        int[][] before = {cells(x, 0, 0, 34), cells(x, 1, 0, 34), cells(x, 2, 0, 34)};
        for (int e : new int[] {-1, -2, LOWEST, 3, 4, 60, HIGHEST}) {
            due("spoil(" + e + ", 0, 5)", x.spoil(e, 0, 5), 0);
            due("spoil(" + e + ", 33, 5)", x.spoil(e, 33, 5), 0);
        }
        for (int e = 0; e < 3; e++) {
            for (int i : new int[] {-1, -34, LOWEST, 34, 35, HIGHEST}) {
                due("spoil(" + e + ", " + i + ", 5)", x.spoil(e, i, 5), 0);
            }
        }
        for (int e = 0; e < 3; e++) {
            same("the cells of entry " + e, cells(x, e, 0, 34), before[e]);
            due("spoil(" + e + ", 0, 5)", x.spoil(e, 0, 5), before[e][0]);
            due("spoil(" + e + ", 0, 6)", x.spoil(e, 0, 6), 5);
            due("spoil(" + e + ", 33, 7)", x.spoil(e, 33, 7), before[e][33]);
            due("cell(" + e + ", 33)", x.cell(e, 33), 7);
        }
        due("spoil(0, 0, 1) of none", new MinedLedger(0).spoil(0, 0, 1), 0);
    }

    // ---- promise 13

    private void drops() {
        about("13: The newest entry is dropped: its number. NONE: there is none");
        MinedLedger x = new MinedLedger(0);
        due("drop() of none", x.drop(), NONE);
        append(x, 0);
        append(x, 1);
        due("drop() of two", x.drop(), 1);
        due("drop() of one", x.drop(), 0);
        due("drop() of none", x.drop(), NONE);
        due("count()", x.count(), 0);
        x = grown(60);
        due("drop() of sixty", x.drop(), 59);
        due("drop() of 59", x.drop(), 58);
        dropHead();
        dropFilter();
    }

    private void dropHead() {
        about("13: THE HEAD becomes its link, as that stands");
        for (int e : new int[] {0, 1, 2}) {
            MinedLedger x = grown(e + 1);
            int[] link = new int[8];
            for (int i = 0; i < 8; i++) {
                link[i] = -1 - i;
                x.spoil(e, i, link[i]);
            }
            x.spoil(e, 8, 8);
            due("drop()", x.drop(), e);
            same("head", heads(x), link);
            due("drop()", x.drop(), e == 0 ? NONE : e - 1);
            same("head", heads(x), e == 0 ? link : e == 1 ? new int[8] : cells(x, 0, 26, 34));
        }
    }

    private void dropFilter() {
        about("13: the filter is made anew from all words that are there");
        MinedLedger x = new MinedLedger(0);
        for (int e = 0; e < 3; e++) {
            for (int k = 0; k < 8; k++) {
                x.put(1001 + 10 * e + k);
            }
            append(x, e);
        }
        x.put(5555);
        x.spoil(0, 16, 2001);
        x.spoil(1, 23, 2002);
        x.spoil(1, 15, 2003);
        x.spoil(1, 24, 2004);
        due("may(2001) before", x.may(2001), 0);
        due("drop()", x.drop(), 2);
        int[][] rows = {{2001, 1}, {2002, 1}, {1002, 1}, {1011, 1}, {1001, 0}, {1018, 0}, {2003, 0}, {2004, 0},
            {1021, 0}, {1028, 0}, {5555, 0}, {0, 0}};
        for (int[] row : rows) {
            due("may(" + row[0] + ")", x.may(row[0]), row[1]);
        }
        x.spoil(1, 20, 0);
        x.drop();
        due("may(0), which was dropped", x.may(0), 0);
        x.spoil(0, 20, 0);
        append(x, 1);
        x.drop();
        due("may(0), which is there", x.may(0), 1);
        x.drop();
        due("may(0) of no entries", x.may(0), 0);
        due("may(2001) of no entries", x.may(2001), 0);
        for (int place = 0; place < 32; place++) {
            int word = wordWithBitsAt(place);
            due("may(" + word + ") of no entries", x.may(word), 0);
        }
    }

    /** A word whose four bits leave the same when 32 divides them. */
    private static int wordWithBitsAt(int place) {
        for (int word = 0; word < 1000000; word++) {
            if (Arrays.stream(Reference.filterBits(word)).allMatch(bit -> bit % 32 == place)) {
                return word;
            }
        }
        throw new IllegalStateException("no such word");
    }

    // ---- promises 14 to 16

    private void words() {
        about("14: Whether a word MAY BE THERE (1, 0)");
        MinedLedger x = new MinedLedger(0);
        due("may(5) of none", x.may(5), 0);
        x.put(5);
        due("may(5), pending", x.may(5), 0);
        x.mine(1);
        due("may(5), mined", x.may(5), 0);
        x.commit();
        due("may(5), appended", x.may(5), 1);
        due("may(4)", x.may(4), 0);
        due("may(6)", x.may(6), 0);
        x.spoil(0, 16, 6);
        due("may(5), spoiled", x.may(5), 1);
        due("may(6), spoiled", x.may(6), 0);
        findFirst();
        findNone();
        stirs();
    }

    private void findFirst() {
        about("15: The first entry that has a word in its cells 16 .. 23 as they stand");
        MinedLedger x = new MinedLedger(0);
        for (int e = 0; e < 60; e++) {
            x.put(9);
            if (e % 2 == 0) {
                x.put(1001 + e);
            }
            append(x, e);
        }
        due("find(9)", x.find(9), 0);
        due("find(0)", x.find(0), 0);
        x.spoil(0, 16, 8);
        due("find(9)", x.find(9), 1);
        x.spoil(0, 15, 9);
        x.spoil(0, 24, 9);
        due("find(9), beside the words", x.find(9), 1);
        x.spoil(0, 23, 9);
        due("find(9) in cell 23", x.find(9), 0);
        x.spoil(0, 23, 0);
        x.spoil(0, 16, 9);
        due("find(9) in cell 16", x.find(9), 0);
        due("find(1059) of entry 58", x.find(1059), 58);
        x.spoil(59, 23, 1059);
        due("find(1059)", x.find(1059), 58);
        x.spoil(58, 17, 0);
        due("find(1059) of the last entry", x.find(1059), 59);
    }

    private void findNone() {
        about("15: NONE: there is none, or it may not be there");
        MinedLedger x = new MinedLedger(0);
        due("find(0) of no entries", x.find(0), NONE);
        x.put(5);
        due("find(5), pending", x.find(5), NONE);
        append(x, 0);
        due("find(5)", x.find(5), 0);
        x.spoil(0, 16, 6);
        due("may(5)", x.may(5), 1);
        due("find(5): there is none", x.find(5), NONE);
        due("may(6)", x.may(6), 0);
        due("find(6): it may not be there", x.find(6), NONE);
        append(x, 1);
        x.drop();
        due("find(6) with the filter anew", x.find(6), 0);
        due("find(5) with the filter anew", x.find(5), NONE);
        x.drop();
        due("find(6) of no entries", x.find(6), NONE);
        findBehindTheLast();
    }

    private void findBehindTheLast() {
        MinedLedger x = grown(3);
        x.spoil(2, 17, 100);
        x.drop();
        x.spoil(0, 16, 7);
        due("may(100)", x.may(100), 1);
        due("find(100), which only a dropped entry had", x.find(100), NONE);
        x = grown(60);
        x.spoil(59, 16, 7);
        due("may(159)", x.may(159), 1);
        due("find(159) of sixty", x.find(159), NONE);
        due("find(158) of sixty", x.find(158), 58);
    }

    private void stirs() {
        about("16: STIR");
        MinedLedger x = new MinedLedger(0);
        int[] ends = {LOWEST, LOWEST + 1, -2, -1, 0, 1, 2, HIGHEST - 1, HIGHEST};
        for (int word : ends) {
            for (int seed : ends) {
                due("stir(" + word + ", " + seed + ")", x.stir(word, seed), Reference.stir(word, seed));
            }
        }
    }

    // ---- promises 17 and 18

    private void audits() {
        about("17: The AUDIT's place becomes 0: what it was");
        for (int n : new int[] {0, 1, 2, 59, 60}) {
            MinedLedger x = grown(60);
            if (n > 0) {
                due("audit(" + n + ")", x.audit(n), NONE);
            }
            due("begin() after " + n, x.begin(), n);
            due("begin() again", x.begin(), 0);
            x.spoil(0, 16, 5);
            due("audit(1) begins anew", x.audit(1), 0);
        }
        auditRange();
        auditAsManyAsThereAre();
        auditFaultNumbers();
    }

    private void auditRange() {
        about("18: The next n (1 .. 100) entries are AUDITED. BAD");
        MinedLedger x = grown(60);
        for (int n : new int[] {LOWEST, -1, 0, 101, 102, HIGHEST}) {
            due("audit(" + n + ")", x.audit(n), BAD);
        }
        due("begin()", x.begin(), 0);
        due("audit(1)", x.audit(1), NONE);
        due("begin()", x.begin(), 1);
        due("audit(2)", x.audit(2), NONE);
        due("begin()", x.begin(), 2);
        due("audit(99)", x.audit(99), CLEAN);
        due("begin()", x.begin(), 60);
        due("audit(100)", x.audit(100), CLEAN);
        due("begin()", x.begin(), 60);
    }

    private void auditAsManyAsThereAre() {
        about("18: NONE: there are more (the head is looked at by another call if there was just room)");
        for (int entries : new int[] {1, 2, 59, 60}) {
            MinedLedger x = grown(entries);
            if (entries > 1) {
                due("audit(" + (entries - 1) + ") of " + entries, x.audit(entries - 1), NONE);
                due("begin()", x.begin(), entries - 1);
            }
            due("audit(" + entries + ") of " + entries, x.audit(entries), NONE);
            due("fault()", x.fault(), 0);
            due("audit(1), the head", x.audit(1), CLEAN);
            due("begin()", x.begin(), entries);
            due("audit(" + (entries + 1) + ") of " + entries, x.audit(entries + 1), CLEAN);
            due("begin()", x.begin(), entries);
        }
        about("18: CLEAN: behind the last one, and the head is right");
        MinedLedger x = new MinedLedger(0);
        due("audit(1) of no entries", x.audit(1), CLEAN);
        due("audit(100) of no entries", x.audit(100), CLEAN);
        x = grown(2);
        x.spoil(1, 26, x.cell(1, 26) ^ 1);
        due("audit(1)", x.audit(1), NONE);
        due("audit(1)", x.audit(1), 1);
        x.spoil(1, 26, x.head(0));
        due("audit(1)", x.audit(1), NONE);
        x.spoil(1, 26, x.cell(1, 26) ^ 1);
        due("audit(1), the head is not right", x.audit(1), 1);
    }

    private void auditFaultNumbers() {
        about("18: else the number of the entry with the fault");
        for (int e : new int[] {0, 1, 58, 59}) {
            MinedLedger x = grown(60);
            x.spoil(e, 20, 5);
            if (e > 0) {
                due("audit(" + e + ")", x.audit(e), NONE);
                x.begin();
            }
            due("audit(" + (e + 1) + ")", x.audit(e + 1), e);
            due("audit(100)", x.audit(100), e);
        }
        about("18: of 5 the last one, of 6 it is 0");
        for (int entries : new int[] {0, 1, 2, 59}) {
            MinedLedger x = grown(entries + 1);
            x.spoil(entries, 7, x.cell(entries, 7) ^ 1);
            x.drop();
            due("audit(100) of " + entries, x.audit(100), Math.max(0, entries - 1));
            due("fault() of " + entries, x.fault(), entries == 0 ? 6 : 5);
        }
    }

    // ---- promise 19

    private void faults() {
        about("19: 0: no fault, or there was none");
        MinedLedger x = new MinedLedger(0);
        due("fault() of a new one", x.fault(), 0);
        due("audit(0)", x.audit(0), BAD);
        due("fault() after a bad one", x.fault(), 0);
        x.audit(1);
        due("fault() of a clean one", x.fault(), 0);
        x = grown(2);
        x.spoil(1, 16, 5);
        due("fault() before an audit", x.fault(), 0);
        x.audit(1);
        due("fault() of an audit that has more", x.fault(), 0);
        about("19: What the latest audit() that was not BAD found");
        x.audit(1);
        due("fault()", x.fault(), 3);
        for (int n : new int[] {LOWEST, -1, 0, 101, HIGHEST}) {
            due("audit(" + n + ")", x.audit(n), BAD);
            due("fault()", x.fault(), 3);
        }
        x.begin();
        due("fault() after begin", x.fault(), 3);
        x.spoil(1, 16, 101);
        due("fault() after it was mended", x.fault(), 3);
        due("audit(2)", x.audit(2), NONE);
        due("fault()", x.fault(), 0);
        x.spoil(1, 26, 5);
        x.audit(1);
        due("fault()", x.fault(), 5);
        x.drop();
        due("fault() after a drop", x.fault(), 5);
        due("audit(1)", x.audit(1), CLEAN);
        due("fault()", x.fault(), 0);
    }

    // ---- promise 20

    private void ways() {
        about("20: NONE: it has no such level");
        int[][] rows = {{1, 0, 1}, {2, 0, 2}, {2, 1, 1}, {3, 0, 2}, {3, 1, 2}, {60, 59, 1}, {60, 58, 2}, {60, 0, 6},
            {60, 1, 20}};
        for (int[] row : rows) {
            MinedLedger x = grown(row[0]);
            int levels = row[2];
            due("way(.., 0)", x.way(row[1], 0), row[0] - 1);
            due("way(" + row[1] + ", " + (levels - 1) + ")", x.way(row[1], levels - 1), row[1]);
            for (int level : new int[] {-1, -2, LOWEST, levels, levels + 1, 60, HIGHEST}) {
                due("way(" + row[1] + ", " + level + ")", x.way(row[1], level), NONE);
            }
        }
        about("20: BAD: no such entry");
        for (int entries : new int[] {0, 1, 2, 60}) {
            MinedLedger x = grown(entries);
            for (int e : new int[] {-1, -2, LOWEST, entries, entries + 1, HIGHEST}) {
                for (int level : new int[] {-1, 0, 1, HIGHEST}) {
                    due("way(" + e + ", " + level + ")", x.way(e, level), BAD);
                }
            }
        }
    }

    // ---- promises 21 to 23

    private void proofs() {
        proveBad();
        proveInsteadOfWhatWas();
        proofNoneSuch();
        forgeNoneSuch();
    }

    private void proveBad() {
        about("21: BAD");
        for (int entries : new int[] {0, 1, 2, 60}) {
            MinedLedger x = grown(entries);
            for (int e : new int[] {-1, -2, LOWEST, entries, entries + 1, HIGHEST}) {
                due("prove(" + e + ")", x.prove(e), BAD);
            }
            due("proof(0)", x.proof(0), 0);
            if (entries > 0) {
                due("prove(" + (entries - 1) + ")", x.prove(entries - 1), 26);
                due("prove(" + entries + ")", x.prove(entries), BAD);
                due("check(" + (entries - 1) + ") of what stayed", x.check(entries - 1), 1);
            }
        }
    }

    private void proveInsteadOfWhatWas() {
        about("21: instead of what was: how many words");
        MinedLedger x = grown(60);
        due("prove(1), the longest", x.prove(1), 520);
        due("prove(58)", x.prove(58), 52);
        due("check(58)", x.check(58), 1);
        due("proof(51)", x.proof(51), x.cell(58, 25));
        due("proof(52)", x.proof(52), 0);
        due("proof(68) of what was", x.proof(68), 0);
        due("prove(59)", x.prove(59), 26);
        due("proof(42) of what was", x.proof(42), 0);
        due("prove(1)", x.prove(1), 520);
        due("proof(510)", x.proof(510), 101);
        due("check(1)", x.check(1), 1);
    }

    private void proofNoneSuch() {
        about("22: Word i of the proof; 0: there is none such");
        due("proof(0) without a proof", grown(1).proof(0), 0);
        for (int[] row : new int[][] {{0, 26}, {1, 52}}) {
            MinedLedger x = grown(row[0] + 1);
            // Words that are not 0 stand at both ends.
            x.spoil(row[0], 0, 71);
            x.spoil(0, 25, 72);
            due("prove(0)", x.prove(0), row[1]);
            due("proof(0)", x.proof(0), 71);
            due("proof(1)", x.proof(1), x.cell(row[0], 1));
            due("proof(" + (row[1] - 1) + ")", x.proof(row[1] - 1), 72);
            for (int i : new int[] {-1, -2, LOWEST, row[1], row[1] + 1, 1559, 1560, 1561, HIGHEST}) {
                due("proof(" + i + ")", x.proof(i), 0);
            }
        }
    }

    private void forgeNoneSuch() {
        about("23: Word i of the proof becomes w: what it was. 0: there is none such");
        MinedLedger x = grown(2);
        due("forge(0, 5) without a proof", x.forge(0, 5), 0);
        due("proof(0)", x.proof(0), 0);
        due("prove(1)", x.prove(1), 26);
        int[] words = new int[26];
        Arrays.setAll(words, x::proof);
        for (int i : new int[] {-1, -2, LOWEST, 26, 27, 1559, 1560, 1561, HIGHEST}) {
            due("forge(" + i + ", 5)", x.forge(i, 5), 0);
            due("proof(" + i + ")", x.proof(i), 0);
        }
        due("check(1)", x.check(1), 1);
        for (int i : new int[] {0, 1, 24, 25}) {
            due("forge(" + i + ", 5)", x.forge(i, 5), words[i]);
            due("forge(" + i + ", 6)", x.forge(i, 6), 5);
            due("proof(" + i + ")", x.proof(i), 6);
            due("check(1)", x.check(1), 0);
            due("forge(" + i + ", ..)", x.forge(i, words[i]), 6);
            due("check(1)", x.check(1), 1);
        }
        forgeBehindTheEnd();
    }

    /** Behind the end stands what a longer proof had there before. */
    private void forgeBehindTheEnd() {
        MinedLedger x = grown(4);
        due("prove(1)", x.prove(1), 78);
        int was = x.proof(26);
        due("proof(26)", was, x.cell(2, 0));
        due("prove(3)", x.prove(3), 26);
        due("forge(26, 5)", x.forge(26, 5), 0);
        due("proof(26)", x.proof(26), 0);
        due("forge(27, 5)", x.forge(27, 5), 0);
        due("forge(25, 5)", x.forge(25, 5), x.cell(3, 25));
        due("proof(25)", x.proof(25), 5);
    }

    // ---- promise 24

    private void checks() {
        about("24: BAD: no such entry");
        for (int entries : new int[] {0, 1, 2, 60}) {
            MinedLedger x = grown(entries);
            x.prove(entries - 1);
            for (int e : new int[] {-1, -2, LOWEST, entries, entries + 1, HIGHEST}) {
                due("check(" + e + ")", x.check(e), BAD);
            }
            if (entries > 0) {
                due("check(" + (entries - 1) + ")", x.check(entries - 1), 1);
                x.drop();
                due("check(" + (entries - 1) + ") of a dropped one", x.check(entries - 1), BAD);
            }
        }
        about("24: Whether the proof is CHECKED for entry e (1, 0)");
        MinedLedger x = grown(60);
        for (int e : new int[] {0, 1, 31, 32, 33, 58, 59}) {
            due("check(" + e + ") without its proof", x.check(e), 0);
            int words = x.prove(e);
            due("check(" + e + ")", x.check(e), 1);
            // The first and the last word of the proof.
            for (int i : new int[] {0, words - 1}) {
                int was = x.forge(i, x.proof(i) ^ 1);
                due("check(" + e + ") with word " + i + " forged", x.check(e), 0);
                x.forge(i, was);
                due("check(" + e + ")", x.check(e), 1);
            }
        }
    }
}
