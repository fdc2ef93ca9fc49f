/**
 * A test for each sentence of the document's terms that names a boundary case, with what is just below it, at it and
 * just above it. The words or numbers that were "found by a search" were looked for once, by trying all in turn.
 */
public final class TermsBoundariesTest extends LedgerChecks {
    private static final int[] EXTREMES = {LOWEST, LOWEST + 1, -1, 0, 1, HIGHEST - 1, HIGHEST};

    public static void main(String[] args) {
        TermsBoundariesTest test = new TermsBoundariesTest();
        test.hashes();
        test.entries();
        test.mining();
        test.forgetting();
        test.filters();
        test.audits();
        test.ways();
        test.proofs();
        test.bad();
        test.lastCalls();
        test.end();
    }

    // ---- 1 THE HASH

    private void hashes() {
        wordsRunOver();
        hashOfExtremes();
        fewZeros();
        zerosOverTheFirstWord();
        zerosAtMost();
    }

    private void wordsRunOver() {
        about("1: WORDS have 32 bits and run over");
        MinedLedger x = new MinedLedger(0);
        for (int k = 0; k < EXTREMES.length; k++) {
            due("put(" + EXTREMES[k] + ")", x.put(EXTREMES[k]), k + 1);
            due("pending(" + k + ")", x.pending(k), EXTREMES[k]);
        }
        append(x, 0);
        for (int k = 0; k < EXTREMES.length; k++) {
            due("cell(0, " + (16 + k) + ")", x.cell(0, 16 + k), EXTREMES[k]);
            due("find(" + EXTREMES[k] + ")", x.find(EXTREMES[k]), 0);
        }
        for (int word : EXTREMES) {
            for (int seed : EXTREMES) {
                due("stir(" + word + ", " + seed + ")", x.stir(word, seed), Reference.stir(word, seed));
            }
        }
    }

    private void hashOfExtremes() {
        about("1: a 1 bit, 0s, and 32 n as 64 bits are put behind them");
        for (int word : EXTREMES) {
            MinedLedger x = new MinedLedger(0);
            for (int k = 0; k < 8; k++) {
                x.put(word);
            }
            append(x, 0);
            same("hash", cells(x, 0, 26, 34), Reference.hash(cells(x, 0, 0, 26)));
            for (int i = 0; i < 26; i++) {
                x.spoil(0, i, word);
            }
            x.prove(0);
            rehash(x, 0);
            takeHeadFromCells(x);
            due("check(0) with all words " + word, x.check(0), 1);
        }
    }

    /** One entry, whose cells 16, 24 and 25 are these; its hash and the head are right. */
    private MinedLedger marked(int word, int mark, int nonce) {
        MinedLedger x = grown(1);
        x.spoil(0, 16, word);
        x.spoil(0, 24, mark);
        x.spoil(0, 25, nonce);
        rehash(x, 0);
        takeHeadFromCells(x);
        return x;
    }

    private void dueZeros(int[] row) {
        int word = row[0];
        int asked = row[1];
        int nonce = row[2];
        int zeros = row[3];
        MinedLedger x = marked(word, 16 * asked, nonce);
        due("zeros of nonce " + nonce, Reference.zeros(cells(x, 0, 26, 34)), zeros);
        due("audit(2), " + zeros + " zeros of " + asked, x.audit(2), zeros < asked ? 0 : CLEAN);
        due("fault(), " + zeros + " zeros of " + asked, x.fault(), zeros < asked ? 4 : 0);
    }

    private void fewZeros() {
        about("1: ZEROS are how many bits 0 it begins with");
        for (int asked = 0; asked <= 11; asked++) {
            for (int zeros = Math.max(0, asked - 1); zeros <= asked + 1; zeros++) {
                dueZeros(new int[] {7, asked, nonceWith(7, 16 * asked, zeros), zeros});
            }
        }
    }

    /** The first nonce that gives entry 0 with this word and mark just so many zeros. */
    private static int nonceWith(int word, int mark, int zeros) {
        int[] words = new int[26];
        words[16] = word;
        words[24] = mark;
        while (Reference.zeros(Reference.hash(words)) != zeros && words[25] < 1000000) {
            words[25]++;
        }
        return words[25];
    }

    private void zerosOverTheFirstWord() {
        about("1: from the highest of h 0 on");
        // Found by a search: hashes whose first word is 1 or 0.
        int[][] rows = {
            {2, 32, 421286645, 31}, {4, 32, 1385151245, 32}, {3, 32, 836471112, 34},
            {2, 33, 367081998, 31}, {7, 33, 794350155, 32}, {2, 33, 466934706, 33},
        };
        for (int[] row : rows) {
            dueZeros(row);
        }
    }

    private void zerosAtMost() {
        about("1: 256 at most");
        for (int asked : new int[] {255, 256, 257, HIGHEST >>> 3}) {
            MinedLedger x = marked(7, 16 * asked, 0);
            due("audit(2) with " + asked + " asked", x.audit(2), 0);
            due("fault() with " + asked + " asked", x.fault(), 4);
        }
    }

    // ---- 2 AN ENTRY

    private void entries() {
        linkOfTheFirst();
        skips();
        wordsNotPut();
        marks();
        sixtyAtMost();
        headWithoutAny();
        hashCellsAsTheyAre();
    }

    private void linkOfTheFirst() {
        about("2: 0s: there is none (before)");
        MinedLedger x = grown(2);
        same("link of entry 0", cells(x, 0, 0, 8), new int[8]);
        same("link of entry 1", cells(x, 1, 0, 8), cells(x, 0, 26, 34));
        x.drop();
        x.spoil(0, 0, 11);
        x.spoil(0, 7, 77);
        x.drop();
        due("head(7) that the drop left", x.head(7), 77);
        append(x, 0);
        same("link of entry 0 under such a head", cells(x, 0, 0, 8), new int[8]);
    }

    private void skips() {
        about("2: less by the lowest bit 1 of this one's number (0s for entry 0)");
        int[][] rows = {{1, 0}, {2, 0}, {3, 2}, {4, 0}, {31, 30}, {32, 0}, {33, 32}, {48, 32}, {56, 48}, {58, 56},
            {59, 58}};
        MinedLedger x = grown(60);
        same("skip of entry 0", cells(x, 0, 8, 16), new int[8]);
        for (int[] row : rows) {
            same("skip of entry " + row[0], cells(x, row[0], 8, 16), cells(x, row[1], 26, 34));
        }
    }

    private void wordsNotPut() {
        about("2: 0 where none was put");
        for (int put : new int[] {0, 1, 7, 8}) {
            MinedLedger x = new MinedLedger(0);
            for (int k = 0; k < 8; k++) {
                x.put(-1 - k);
            }
            if (put < 8) {
                x.takeBack(8 - put);
            }
            append(x, 0);
            for (int k = 0; k < 8; k++) {
                due("cell " + (16 + k) + " of " + put + " words", x.cell(0, 16 + k), k < put ? -1 - k : 0);
            }
            due("cell(0, 24)", x.cell(0, 24), put);
            append(x, 1);
            same("words of the next entry", cells(x, 1, 16, 24), new int[8]);
        }
    }

    private void marks() {
        about("2: sixteen times its DIFFICULTY and how many words were put");
        for (int[] row : new int[][] {{0, 0, 0}, {0, 8, 8}, {1, 0, 16}, {1, 8, 24}, {2, 0, 32}}) {
            MinedLedger x = new MinedLedger(row[0]);
            for (int k = 0; k < row[1]; k++) {
                x.put(k);
            }
            append(x, 0);
            due("cell(0, 24) of " + row[0] + " and " + row[1] + " words", x.cell(0, 24), row[2]);
        }
        MinedLedger x = new MinedLedger(20);
        x.put(107898);
        append(x, 0);
        due("cell(0, 24) of 20 and one word", x.cell(0, 24), 321);
    }

    private void sixtyAtMost() {
        about("2: Entries are numbered from 0 on, 60 at most");
        MinedLedger x = grown(58);
        append(x, 58);
        append(x, 59);
        due("mine(1)", x.mine(1), 0);
        due("commit() of an entry 60", x.commit(), FULL);
        due("count()", x.count(), 60);
        due("cell(59, 26)", x.cell(59, 26), x.head(0));
        due("cell(60, 26)", x.cell(60, 26), 0);
    }

    private void headWithoutAny() {
        about("2: THE HEAD, 0s without any");
        MinedLedger x = new MinedLedger(0);
        same("head of a new one", heads(x), new int[8]);
        append(x, 0);
        same("head of one entry", heads(x), cells(x, 0, 26, 34));
        append(x, 1);
        same("head of two entries", heads(x), cells(x, 1, 26, 34));
        x.drop();
        same("head of one entry again", heads(x), cells(x, 0, 26, 34));
        x.drop();
        same("head without any again", heads(x), new int[8]);
    }

    private void hashCellsAsTheyAre() {
        about("2: What an entry takes as the hash of another one are its cells 26 .. 33 as they are");
        MinedLedger x = grown(6);
        for (int e : new int[] {4, 5}) {
            x.spoil(e, 25, -25);
            x.spoil(e, 26, -26 * e);
            x.spoil(e, 33, -33 * e);
        }
        append(x, 6);
        same("link", cells(x, 6, 0, 8), cells(x, 5, 26, 34));
        same("skip", cells(x, 6, 8, 16), cells(x, 4, 26, 34));
        due("cell(6, 0)", x.cell(6, 0), -26 * 5);
        due("cell(6, 7)", x.cell(6, 7), -33 * 5);
        due("cell(6, 8)", x.cell(6, 8), -26 * 4);
        due("cell(6, 15)", x.cell(6, 15), -33 * 4);
        due("cell(6, 16)", x.cell(6, 16), 0);
    }

    // ---- 2 AN ENTRY: the pending one

    private void mining() {
        wordsAndNonce();
        firstNonce();
        lastNonces();
        eachOnce();
        asManyZeros();
    }

    private void wordsAndNonce() {
        about("2: THE PENDING entry has up to eight words, and may have a nonce");
        MinedLedger x = new MinedLedger(0);
        due("commit() of no words and no nonce", x.commit(), REFUSED);
        due("mine(1) of no words", x.mine(1), 0);
        due("commit() of no words", x.commit(), 0);
        for (int k = 1; k <= 8; k++) {
            due("put(5)", x.put(5), k);
        }
        due("put(5) of eight", x.put(5), REFUSED);
        due("commit() of eight words and no nonce", x.commit(), REFUSED);
        due("mine(1) of eight words", x.mine(1), 0);
        due("commit() of eight words", x.commit(), 1);
    }

    private void firstNonce() {
        about("2: nonces 0, 1, .. are tried in turn");
        for (int first = 0; first <= 2; first++) {
            int word = wordWithFirstNonce(first);
            MinedLedger x = new MinedLedger(3);
            x.put(word);
            for (int k = 0; k < first; k++) {
                due("mine(1)", x.mine(1), NONE);
            }
            due("mine(1) for word " + word, x.mine(1), first);
            due("tried()", x.tried(), first + 1);
        }
    }

    private static int wordWithFirstNonce(int first) {
        int[] words = new int[26];
        words[24] = 16 * 3 + 1;
        while (Reference.nonce(words, 0, first + 1, 3) != first && words[16] < 100000) {
            words[16]++;
        }
        return words[16];
    }

    private void lastNonces() {
        about("2: nonces .. 99999 are tried");
        // Found by a search: the first nonces that do for these words are 99998, 99999 and 100000.
        int[][] rows = {{320201, 99998, 99999}, {384324, 99999, 100000}, {231573, NONE, 100000}};
        for (int[] row : rows) {
            MinedLedger x = new MinedLedger(17);
            x.put(row[0]);
            for (int k = 0; k < 33; k++) {
                due("mine(3000)", x.mine(3000), NONE);
            }
            due("mine(998)", x.mine(998), NONE);
            due("mine(3000) for word " + row[0], x.mine(3000), row[1]);
            due("tried()", x.tried(), row[2]);
            due("mine(3000) again", x.mine(3000), row[1] == NONE ? REFUSED : row[1]);
            due("tried()", x.tried(), row[2]);
            due("commit()", x.commit(), row[1] == NONE ? REFUSED : 0);
        }
    }

    private void eachOnce() {
        about("2: each once");
        // The first nonce of word 107898 for 20 zeros is 2277.
        for (int[] steps : new int[][] {{2278}, {2277, 1}, {1, 2277}, {1000, 1000, 277, 1}, {2276, 1, 1}, {3000}}) {
            MinedLedger x = new MinedLedger(20);
            x.put(107898);
            int sum = 0;
            for (int n : steps) {
                sum += n;
                due("mine(" + n + ") up to " + sum, x.mine(n), sum > 2277 ? 2277 : NONE);
                due("tried()", x.tried(), Math.min(sum, 2278));
            }
        }
    }

    private void asManyZeros() {
        about("2: as many ZEROS as the DIFFICULTY");
        MinedLedger x = new MinedLedger(20);
        x.put(107898);
        // Found by a search: nonce 2043 gives 19 zeros, and 2277, which is the first so, gives 20.
        due("mine(2043)", x.mine(2043), NONE);
        due("mine(1) with 19 zeros", x.mine(1), NONE);
        due("mine(233)", x.mine(233), NONE);
        due("mine(1) with 20 zeros", x.mine(1), 2277);
        append(x, 0);
        due("zeros", Reference.zeros(cells(x, 0, 26, 34)), 20);
        due("audit(2)", x.audit(2), CLEAN);
        x = new MinedLedger(0);
        due("mine(1) with no zeros asked", x.mine(1), 0);
    }

    // ---- 2 AN ENTRY: what is forgotten

    private void forgetting() {
        forgottenBy("a word is put", 0);
        forgottenBy("words are taken back", 1);
        forgottenBy("the difficulty is told", 2);
        forgottenBy("a cell is spoiled", 3);
        forgottenBy("an entry dropped", 4);
        forgottenBy("(an entry) appended", 5);
        notForgotten();
    }

    /** Once with nonces tried in vain, once with a nonce kept. */
    private void forgottenBy(String why, int kind) {
        about("2: What was tried and kept is forgotten when " + why);
        MinedLedger x = grown(2);
        x.put(1);
        due("mine(1)", x.mine(1), 0);
        due("tried()", x.tried(), 1);
        change(x, kind);
        due("tried() after a kept nonce", x.tried(), 0);
        due("commit()", x.commit(), REFUSED);
        if (kind == 5) {
            return;
        }
        x.difficulty(20);
        x.put(2);
        due("mine(5)", x.mine(5), NONE);
        due("mine(6)", x.mine(6), NONE);
        due("tried()", x.tried(), 11);
        change(x, kind);
        due("tried() after tries in vain", x.tried(), 0);
    }

    private static void change(MinedLedger x, int kind) {
        switch (kind) {
            case 0 -> x.put(0);
            case 1 -> x.takeBack(1);
            case 2 -> x.difficulty(0);
            case 3 -> x.spoil(0, 0, 0);
            case 4 -> x.drop();
            default -> x.commit();
        }
    }

    private void notForgotten() {
        about("2: what is refused or asks forgets nothing");
        MinedLedger x = grown(60);
        for (int k = 0; k < 8; k++) {
            x.put(k);
        }
        due("mine(1)", x.mine(1), 0);
        due("put(1) of eight", x.put(1), REFUSED);
        due("takeBack(0)", x.takeBack(0), BAD);
        due("takeBack(9)", x.takeBack(9), BAD);
        due("difficulty(-1)", x.difficulty(-1), BAD);
        due("difficulty(21)", x.difficulty(21), BAD);
        due("mine(0)", x.mine(0), BAD);
        due("mine(3001)", x.mine(3001), BAD);
        due("spoil(60, 0, 1)", x.spoil(60, 0, 1), 0);
        due("spoil(0, 34, 1)", x.spoil(0, 34, 1), 0);
        due("commit()", x.commit(), FULL);
        due("audit(100)", x.audit(100), CLEAN);
        due("prove(59)", x.prove(59), 26);
        due("forge(16, 1)", x.forge(16, 1), 159);
        due("tried()", x.tried(), 1);
        due("mine(1)", x.mine(1), 0);
        due("tried()", x.tried(), 1);
        x = new MinedLedger(0);
        due("mine(1)", x.mine(1), 0);
        due("drop() of none", x.drop(), NONE);
        due("tried()", x.tried(), 1);
        due("commit()", x.commit(), 0);
    }

    // ---- 3 THE FILTER

    private void filters() {
        filterAtFirst();
        filterEnds();
        zerosToo();
        fourBits();
    }

    private void filterAtFirst() {
        about("3: THE FILTER has 1024 bits, at first 0");
        MinedLedger x = new MinedLedger(0);
        for (int word = -100; word <= 100; word++) {
            due("may(" + word + ")", x.may(word), 0);
        }
        for (int word : EXTREMES) {
            due("may(" + word + ")", x.may(word), 0);
        }
    }

    /** The bits at the ends of the filter, and at the ends of 32 of them. */
    private void filterEnds() {
        about("3: & 1023");
        for (int bit : new int[] {0, 1, 31, 32, 511, 512, 1022, 1023}) {
            for (int i = 0; i < 4; i++) {
                int word = wordWithBit(bit, i);
                MinedLedger x = new MinedLedger(0);
                fillWith(x, word);
                due("may(" + word + ") with bit " + bit + " before", x.may(word), 0);
                append(x, 0);
                due("may(" + word + ") with bit " + bit, x.may(word), 1);
                x.drop();
                due("may(" + word + ") with bit " + bit + " dropped", x.may(word), 0);
            }
        }
    }

    private static int wordWithBit(int bit, int i) {
        int word = 1;
        while (Reference.filterBits(word)[i] != bit && word < 1000000) {
            word++;
        }
        return word;
    }

    private static void fillWith(MinedLedger x, int word) {
        for (int k = 0; k < 8; k++) {
            x.put(word);
        }
    }

    private void zerosToo() {
        about("3: All words of an entry, the 0s too, get their bits set when it is appended");
        for (int put = 0; put <= 8; put++) {
            MinedLedger x = new MinedLedger(0);
            for (int k = 0; k < put; k++) {
                x.put(1001 + k);
            }
            x.mine(1);
            due("may(0) before", x.may(0), 0);
            due("may(1001) before", x.may(1001), 0);
            append(x, 0);
            due("may(0) of " + put + " words", x.may(0), put < 8 ? 1 : 0);
            for (int k = 0; k < 8; k++) {
                due("may(" + (1001 + k) + ") of " + put + " words", x.may(1001 + k), k < put ? 1 : 0);
            }
        }
    }

    private void fourBits() {
        about("3: A word MAY BE THERE if its four bits are set");
        for (int missing = 0; missing < 4; missing++) {
            boolean[] bits = new boolean[1024];
            MinedLedger x = new MinedLedger(0);
            for (int e = 0; e < 8; e++) {
                for (int k = 0; k < 8; k++) {
                    x.put(8 * e + k + 1);
                    setBits(bits, 8 * e + k + 1);
                }
                append(x, e);
            }
            int probe = 1000000;
            for (int k = 0; k < 100; k++) {
                probe = wordMissing(bits, missing, probe + 1);
                due("may(" + probe + ") with three bits set", x.may(probe), 0);
            }
            int other = wordWithBit(Reference.filterBits(probe)[missing], 0);
            fillWith(x, other);
            append(x, 8);
            due("may(" + probe + ") with four bits set", x.may(probe), 1);
            due("find(" + probe + "), which was never put", x.find(probe), NONE);
        }
    }

    private static void setBits(boolean[] bits, int word) {
        for (int bit : Reference.filterBits(word)) {
            bits[bit] = true;
        }
    }

    /** The next word of whose bits just the one at this place is not set. */
    private static int wordMissing(boolean[] bits, int missing, int from) {
        for (int word = from; word < from + 1000000; word++) {
            int[] own = Reference.filterBits(word);
            boolean fits = true;
            for (int i = 0; i < 4; i++) {
                fits &= bits[own[i]] == (i != missing);
            }
            if (fits) {
                return word;
            }
        }
        throw new IllegalStateException("no such word");
    }

    // ---- 4 AN AUDIT

    private void audits() {
        placeAtFirst();
        linkOrZeros();
        skipOrZeros();
        firstThatIsSo();
        hashOfTheOthers();
        markShifted();
        headOfTheLast();
        headOfNone();
        staysAtFault();
        placeAfterDrop();
    }

    private void placeAtFirst() {
        about("4: AN AUDIT has a place, 0 at first");
        due("begin() of a new one", new MinedLedger(0).begin(), 0);
        MinedLedger x = grown(2);
        x.spoil(0, 0, 1);
        due("audit(1) looks at entry 0 first", x.audit(1), 0);
        due("begin()", x.begin(), 0);
    }

    private void linkOrZeros() {
        about("4: 1 its link is not the hash cells of the entry before (or 0s)");
        for (int e = 0; e <= 2; e++) {
            for (int i : new int[] {0, 1, 6, 7}) {
                MinedLedger x = grown(3);
                int was = x.spoil(e, i, x.cell(e, i) ^ 1);
                dueFault(x, e, 1);
                x.spoil(e, i, was);
                due("audit(9), mended", x.audit(9), CLEAN);
            }
        }
        MinedLedger x = grown(2);
        due("audit(1)", x.audit(1), NONE);
        x.spoil(0, 33, 5);
        dueFault(x, 1, 1);
        x = grown(1);
        x.spoil(0, 7, 5);
        x.drop();
        append(x, 0);
        due("audit(9): 0s, though the head was not", x.audit(9), CLEAN);
    }

    private void dueFault(MinedLedger x, int e, int fault) {
        due("audit(100)", x.audit(100), e);
        due("fault()", x.fault(), fault);
    }

    private void skipOrZeros() {
        about("4: 2 its skip not those of its entry (or 0s)");
        for (int e = 0; e <= 4; e++) {
            for (int i : new int[] {8, 9, 14, 15}) {
                MinedLedger x = grown(5);
                int was = x.spoil(e, i, x.cell(e, i) ^ LOWEST);
                dueFault(x, e, 2);
                x.spoil(e, i, was);
                due("audit(9), mended", x.audit(9), CLEAN);
            }
        }
    }

    private void firstThatIsSo() {
        about("4: the first that is so");
        MinedLedger x = grown(1);
        int link = x.cell(0, 0);
        int skip = x.cell(0, 8);
        x.spoil(0, 24, HIGHEST);
        x.spoil(0, 8, 1);
        x.spoil(0, 0, 1);
        dueFault(x, 0, 1);
        x.spoil(0, 0, link);
        dueFault(x, 0, 2);
        x.spoil(0, 8, skip);
        dueFault(x, 0, 3);
        rehash(x, 0);
        dueFault(x, 0, 4);
        x.spoil(0, 24, 0);
        rehash(x, 0);
        dueFault(x, 0, 5);
        takeHeadFromCells(x);
        due("audit(100)", x.audit(100), CLEAN);
    }

    private void hashOfTheOthers() {
        about("4: 3 cells 26 .. 33 are not the hash of the others");
        for (int i = 16; i <= 33; i++) {
            MinedLedger x = grown(2);
            int was = x.spoil(1, i, x.cell(1, i) ^ 1);
            dueFault(x, 1, 3);
            x.spoil(1, i, was);
            due("audit(9), mended", x.audit(9), CLEAN);
        }
    }

    private void markShifted() {
        about("4: 4 fewer zeros than cell 24, shifted right by 4 bits (with 0s), tells");
        for (int zeros = 0; zeros <= 2; zeros++) {
            int[] marks = {16 * zeros, 16 * zeros + 15, 16 * zeros + 16, 16 * zeros + 31};
            for (int mark : marks) {
                MinedLedger x = marked(9, mark, nonceWith(9, mark, zeros));
                boolean enough = mark < 16 * zeros + 16;
                due("audit(9) of mark " + mark, x.audit(9), enough ? CLEAN : 0);
                due("fault() of mark " + mark, x.fault(), enough ? 0 : 4);
            }
        }
        // With the highest bit set a shift that keeps the sign would tell a number below 0.
        for (int mark : new int[] {HIGHEST, LOWEST, LOWEST + 15, -16, -1}) {
            dueFault(marked(9, mark, 0), 0, 4);
        }
    }

    private void headOfTheLast() {
        about("4: behind the last entry: 5 its hash cells are not the head");
        for (int i : new int[] {0, 1, 6, 7}) {
            MinedLedger x = grown(3);
            due("audit(3)", x.audit(3), NONE);
            x.spoil(2, 26 + i, x.cell(2, 26 + i) ^ 1);
            dueFault(x, 2, 5);
            x.spoil(2, 26 + i, x.head(i));
            due("audit(1), mended", x.audit(1), CLEAN);
            x.spoil(2, i, x.cell(2, i) ^ 1);
            x.drop();
            dueFault(x, 1, 5);
        }
    }

    private void headOfNone() {
        about("4: 6, of no entries: the head is not 0s");
        due("audit(1) of a new one", new MinedLedger(0).audit(1), CLEAN);
        for (int i = 0; i < 8; i++) {
            MinedLedger x = grown(1);
            x.drop();
            due("audit(1) with the head 0s", x.audit(1), CLEAN);
            append(x, 0);
            x.spoil(0, i, 1);
            x.drop();
            dueFault(x, 0, 6);
            due("begin()", x.begin(), 0);
        }
    }

    private void staysAtFault() {
        about("4: At a fault the audit stays");
        for (int i : new int[] {0, 8, 16, 26}) {
            MinedLedger x = grown(4);
            x.spoil(2, i, 1);
            due("audit(2)", x.audit(2), NONE);
            due("audit(1)", x.audit(1), 2);
            due("audit(1)", x.audit(1), 2);
            due("audit(100)", x.audit(100), 2);
            due("begin()", x.begin(), 2);
        }
        MinedLedger x = marked(9, 16 * 30, 0);
        due("audit(1)", x.audit(1), 0);
        due("audit(1)", x.audit(1), 0);
        due("fault()", x.fault(), 4);
        due("begin()", x.begin(), 0);
        x = grown(3);
        x.audit(3);
        x.spoil(2, 26, 1);
        due("audit(1)", x.audit(1), 2);
        due("audit(1)", x.audit(1), 2);
        due("begin(): behind the last one", x.begin(), 3);
    }

    private void placeAfterDrop() {
        about("4: When an entry is dropped, and the place is above how many there are then, it becomes that");
        int[][] rows = {{5, 4}, {4, 4}, {3, 3}, {1, 1}};
        for (int[] row : rows) {
            MinedLedger x = grown(5);
            due("audit(" + row[0] + ")", x.audit(row[0]), NONE);
            x.drop();
            due("begin() with the place at " + row[0], x.begin(), row[1]);
        }
        MinedLedger x = grown(1);
        x.audit(1);
        x.drop();
        due("begin() of no entries", x.begin(), 0);
        x = grown(2);
        x.audit(2);
        x.drop();
        append(x, 1);
        x.spoil(1, 16, 5);
        due("audit(1): the new entry is not passed by", x.audit(1), 1);
    }

    // ---- 5 THE WAY and A PROOF

    private void ways() {
        about("5: THE WAY begins at the newest one (level 0)");
        for (int entries : new int[] {1, 2, 59, 60}) {
            MinedLedger x = grown(entries);
            for (int e : new int[] {0, entries - 1}) {
                due("way(" + e + ", 0) of " + entries, x.way(e, 0), entries - 1);
            }
            due("way(" + (entries - 1) + ", 1) of " + entries, x.way(entries - 1, 1), NONE);
        }
        about("5: less its lowest bit 1, if that is not below e, otherwise x - 1");
        int[][] rows = {{48, 31, 32}, {48, 32, 32}, {48, 33, 47}, {32, 0, 0}, {32, 1, 31}, {32, 31, 31}, {33, 32, 32},
            {33, 31, 32}, {1, 0, 0}, {2, 0, 0}, {2, 1, 1}, {58, 55, 56}, {58, 56, 56}, {58, 57, 57}};
        for (int[] row : rows) {
            due("way(" + row[1] + ", 1) from " + row[0], grown(row[0] + 1).way(row[1], 1), row[2]);
        }
    }

    private void proofs() {
        cellsOfTheWay();
        wordsOfTheWayNow();
        hashIsTheHead();
        linkOrSkip();
    }

    private void cellsOfTheWay() {
        about("5: A PROOF of e has, for each entry of the way, cells 0 .. 25");
        MinedLedger x = grown(4);
        int[] way = {3, 2, 1};
        due("prove(1)", x.prove(1), 26 * way.length);
        for (int k = 0; k < way.length; k++) {
            for (int i = 0; i < 26; i++) {
                due("proof(" + (26 * k + i) + ")", x.proof(26 * k + i), x.cell(way[k], i));
            }
        }
        due("proof(78)", x.proof(78), 0);
        due("prove(3)", x.prove(3), 26);
        due("proof(25)", x.proof(25), x.cell(3, 25));
        due("proof(26)", x.proof(26), 0);
    }

    private void wordsOfTheWayNow() {
        about("5: if it has 26 words for each entry of the way to it now");
        MinedLedger x = grown(4);
        due("check(3) without a proof", x.check(3), 0);
        due("prove(2)", x.prove(2), 52);
        due("check(3): one entry too many", x.check(3), 0);
        due("check(2)", x.check(2), 1);
        due("check(1): one entry too few", x.check(1), 0);
        append(x, 4);
        due("check(2): the way is another now", x.check(2), 0);
        x.drop();
        due("check(2)", x.check(2), 1);
        due("prove(1)", x.prove(1), 78);
        due("check(0): as many words, but another way", x.check(0), 0);
        due("check(1)", x.check(1), 1);
    }

    private void hashIsTheHead() {
        about("5: the hash of the first ones is the head");
        for (int i : new int[] {0, 1, 6, 7}) {
            MinedLedger x = grown(3);
            x.spoil(2, i, x.cell(2, i) ^ 1);
            x.drop();
            x.prove(1);
            due("check(1) with word " + i + " of the head another", x.check(1), 0);
            x.prove(0);
            due("check(0) with word " + i + " of the head another", x.check(0), 0);
        }
    }

    /** Of the newest entry one word of the link or of the skip is another; its hash and the head are right. */
    private void linkOrSkip() {
        about("5: link (the step was to x - 1) or skip (otherwise; also where both are the same entry)");
        int[][] rows = {{4, 3, 0}, {4, 2, 0}, {4, 0, 8}, {6, 5, 0}, {6, 4, 8}, {6, 3, 8}, {5, 4, 8}, {5, 3, 8},
            {1, 0, 8}};
        for (int[] row : rows) {
            for (int spoiled : new int[] {0, 7, 8, 15}) {
                MinedLedger x = grown(row[0] + 1);
                x.spoil(row[0], spoiled, x.cell(row[0], spoiled) ^ 1);
                rehash(x, row[0]);
                takeHeadFromCells(x);
                x.prove(row[1]);
                boolean looked = spoiled >= row[2] && spoiled < row[2] + 8;
                due("check(" + row[1] + ") of " + row[0] + ", cell " + spoiled, x.check(row[1]), looked ? 0 : 1);
            }
        }
    }

    // ---- all calls

    private void bad() {
        about("In all calls BAD: a number is not as said, there is no such one");
        MinedLedger x = grown(3);
        x.put(1);
        x.put(2);
        due("mine(1)", x.mine(1), 0);
        due("prove(1)", x.prove(1), 52);
        due("audit(2)", x.audit(2), NONE);
        for (int n : new int[] {LOWEST, -1, 0, 3, HIGHEST}) {
            due("takeBack(" + n + ")", x.takeBack(n), BAD);
        }
        for (int d : new int[] {LOWEST, -1, 21, HIGHEST}) {
            due("difficulty(" + d + ")", x.difficulty(d), BAD);
        }
        for (int n : new int[] {LOWEST, -1, 0, 3001, HIGHEST}) {
            due("mine(" + n + ")", x.mine(n), BAD);
        }
        for (int n : new int[] {LOWEST, -1, 0, 101, HIGHEST}) {
            due("audit(" + n + ")", x.audit(n), BAD);
        }
        for (int e : new int[] {LOWEST, -1, 3, HIGHEST}) {
            due("way(" + e + ", 0)", x.way(e, 0), BAD);
            due("prove(" + e + ")", x.prove(e), BAD);
            due("check(" + e + ")", x.check(e), BAD);
        }
        due("tried() is as before", x.tried(), 1);
        due("pending(1) is as before", x.pending(1), 2);
        due("check(1) is as before", x.check(1), 1);
        due("begin() is as before", x.begin(), 2);
        due("commit() is as before", x.commit(), 3);
        due("difficulty(0) is as before", x.difficulty(0), 0);
    }

    private void lastCalls() {
        about("An object is used for at most 512 calls");
        MinedLedger x = grown(60);
        for (int calls = 180; calls < 509; calls++) {
            due("call " + (calls + 1) + ", audit(100)", x.audit(100), CLEAN);
        }
        due("call 510, prove(1)", x.prove(1), 520);
        due("call 511, check(1)", x.check(1), 1);
        due("call 512, drop()", x.drop(), 59);
    }
}
