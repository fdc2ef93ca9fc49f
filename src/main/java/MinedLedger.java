import java.util.Arrays;

/**
 * A ledger to which one only appends. Each entry carries the hashes of entries before it, and is
 * found by trying nonces until its own hash begins with enough zeros.
 *
 * <p>All rows are made once, with the object: no call makes anything.
 */
public final class MinedLedger {
    public static final int NONE = -1;
    public static final int BAD = -2;
    public static final int REFUSED = -3;
    public static final int FULL = -4;
    public static final int CLEAN = -5;

    private static final int MOST_ENTRIES = 60;
    private static final int MOST_WORDS = 8;
    private static final int MOST_DIFFICULTY = 20;
    private static final int NONCES = 100000;
    private static final int MOST_NONCES_A_CALL = 3000;
    private static final int MOST_AUDITED_A_CALL = 100;

    private static final int HASH_WORDS = 8;
    private static final int CELLS = 34;
    private static final int LINK = 0;
    private static final int SKIP = 8;
    private static final int WORDS = 16;
    private static final int MARK = 24;
    private static final int NONCE = 25;
    private static final int HASH = 26;
    /** The cells that are hashed, and that a proof has of each entry. */
    private static final int HASHED = 26;

    private static final int NO_FAULT = 0;
    private static final int LINK_FAULT = 1;
    private static final int SKIP_FAULT = 2;
    private static final int HASH_FAULT = 3;
    private static final int ZEROS_FAULT = 4;
    private static final int HEAD_FAULT = 5;
    private static final int EMPTY_HEAD_FAULT = 6;

    private final Hasher hasher;
    private final Filter filter;
    /** The cells of all entries, one entry after the other. */
    private final int[] cells;
    /** Kept apart from the newest entry's cells, which can be spoiled. */
    private final int[] headWords;
    /** The pending entry; all its cells are right as soon as a nonce is kept. */
    private final int[] draft;
    private final int[] proofWords;
    private int entryCount;
    private int wordCount;
    private int zerosAsked;
    private int triedCount;
    private int keptNonce;
    private int place;
    private int latestFault;
    private int proofLength;

    public MinedLedger(int difficulty) {
        hasher = new Hasher();
        filter = new Filter();
        cells = new int[MOST_ENTRIES * CELLS];
        headWords = new int[HASH_WORDS];
        draft = new int[CELLS];
        // A way never has more entries than there are.
        proofWords = new int[MOST_ENTRIES * HASHED];
        entryCount = 0;
        wordCount = 0;
        zerosAsked = Math.max(0, Math.min(MOST_DIFFICULTY, difficulty));
        triedCount = 0;
        keptNonce = NONE;
        place = 0;
        latestFault = NO_FAULT;
        proofLength = 0;
    }

    // ---- the pending entry

    public int put(int word) {
        if (wordCount >= MOST_WORDS) {
            return REFUSED;
        }
        draft[WORDS + wordCount] = word;
        wordCount++;
        forgetNonces();
        return wordCount;
    }

    public int takeBack(int n) {
        if (n < 1 || n > wordCount) {
            return BAD;
        }
        clearWordsFrom(wordCount - n);
        forgetNonces();
        return wordCount;
    }

    public int pending(int i) {
        if (i < 0 || i >= wordCount) {
            return 0;
        }
        return draft[WORDS + i];
    }

    public int difficulty(int d) {
        if (d < 0 || d > MOST_DIFFICULTY) {
            return BAD;
        }
        int before = zerosAsked;
        zerosAsked = d;
        forgetNonces();
        return before;
    }

    public int mine(int n) {
        if (n < 1 || n > MOST_NONCES_A_CALL) {
            return BAD;
        }
        if (keptNonce != NONE) {
            return keptNonce;
        }
        if (triedCount >= NONCES) {
            return REFUSED;
        }
        fillDraft();
        tryNonces(Math.min(n, NONCES - triedCount));
        return keptNonce;
    }

    public int tried() {
        return triedCount;
    }

    public int commit() {
        if (entryCount >= MOST_ENTRIES) {
            return FULL;
        }
        if (keptNonce == NONE) {
            return REFUSED;
        }
        int e = entryCount;
        System.arraycopy(draft, 0, cells, e * CELLS, CELLS);
        System.arraycopy(draft, HASH, headWords, 0, HASH_WORDS);
        entryCount++;
        addToFilter(e);
        clearWordsFrom(0);
        forgetNonces();
        return e;
    }

    /** Words that are not there count as 0 in the entry, so what goes is made 0. */
    private void clearWordsFrom(int first) {
        Arrays.fill(draft, WORDS + first, WORDS + MOST_WORDS, 0);
        wordCount = first;
    }

    private void forgetNonces() {
        triedCount = 0;
        keptNonce = NONE;
    }

    private void fillDraft() {
        copyHashOf(entryCount - 1, LINK);
        copyHashOf(skipOf(entryCount), SKIP);
        draft[MARK] = 16 * zerosAsked + wordCount;
    }

    private void copyHashOf(int e, int to) {
        if (hasEntry(e)) {
            System.arraycopy(cells, e * CELLS + HASH, draft, to, HASH_WORDS);
        } else {
            Arrays.fill(draft, to, to + HASH_WORDS, 0);
        }
    }

    private void tryNonces(int most) {
        hasher.takeFirst(draft, 0);
        for (int k = 0; k < most && keptNonce == NONE; k++) {
            draft[NONCE] = triedCount;
            triedCount++;
            hasher.takeRest(draft, 0);
            if (hasher.zeros() >= zerosAsked) {
                keptNonce = draft[NONCE];
                hasher.copyTo(draft, HASH);
            }
        }
    }

    // ---- the entries

    public int count() {
        return entryCount;
    }

    public int head(int i) {
        if (i < 0 || i >= HASH_WORDS) {
            return 0;
        }
        return headWords[i];
    }

    public int cell(int e, int i) {
        if (!hasCell(e, i)) {
            return 0;
        }
        return cells[e * CELLS + i];
    }

    public int spoil(int e, int i, int w) {
        if (!hasCell(e, i)) {
            return 0;
        }
        int before = cells[e * CELLS + i];
        cells[e * CELLS + i] = w;
        forgetNonces();
        return before;
    }

    public int drop() {
        if (entryCount == 0) {
            return NONE;
        }
        entryCount--;
        System.arraycopy(cells, entryCount * CELLS + LINK, headWords, 0, HASH_WORDS);
        remakeFilter();
        place = Math.min(place, entryCount);
        forgetNonces();
        return entryCount;
    }

    private boolean hasEntry(int e) {
        return e >= 0 && e < entryCount;
    }

    private boolean hasCell(int e, int i) {
        return hasEntry(e) && i >= 0 && i < CELLS;
    }

    /** The entry whose hash entry e has as its skip; NONE for entry 0. */
    private static int skipOf(int e) {
        return e == 0 ? NONE : e - (e & -e);
    }

    // ---- the search for words

    public int may(int word) {
        return filter.mayHave(word) ? 1 : 0;
    }

    public int find(int word) {
        if (!filter.mayHave(word)) {
            return NONE;
        }
        for (int e = 0; e < entryCount; e++) {
            if (hasWord(e, word)) {
                return e;
            }
        }
        return NONE;
    }

    public int stir(int word, int seed) {
        return Filter.stirred(word, seed);
    }

    private boolean hasWord(int e, int word) {
        int first = e * CELLS + WORDS;
        for (int i = 0; i < MOST_WORDS; i++) {
            if (cells[first + i] == word) {
                return true;
            }
        }
        return false;
    }

    private void addToFilter(int e) {
        int first = e * CELLS + WORDS;
        for (int i = 0; i < MOST_WORDS; i++) {
            filter.include(cells[first + i]);
        }
    }

    private void remakeFilter() {
        filter.clear();
        for (int e = 0; e < entryCount; e++) {
            addToFilter(e);
        }
    }

    // ---- the audit

    public int begin() {
        int before = place;
        place = 0;
        return before;
    }

    public int audit(int n) {
        if (n < 1 || n > MOST_AUDITED_A_CALL) {
            return BAD;
        }
        latestFault = NO_FAULT;
        for (int k = 0; k < n; k++) {
            if (place >= entryCount) {
                return auditHead();
            }
            latestFault = faultOf(place);
            if (latestFault != NO_FAULT) {
                return place;
            }
            place++;
        }
        return NONE;
    }

    public int fault() {
        return latestFault;
    }

    private int auditHead() {
        if (isHashOf(entryCount - 1, headWords, 0)) {
            return CLEAN;
        }
        latestFault = entryCount == 0 ? EMPTY_HEAD_FAULT : HEAD_FAULT;
        return Math.max(0, entryCount - 1);
    }

    private int faultOf(int e) {
        int row = e * CELLS;
        if (!isHashOf(e - 1, cells, row + LINK)) {
            return LINK_FAULT;
        }
        if (!isHashOf(skipOf(e), cells, row + SKIP)) {
            return SKIP_FAULT;
        }
        hasher.takeAll(cells, row);
        if (!hasher.isAt(cells, row + HASH)) {
            return HASH_FAULT;
        }
        if (hasher.zeros() < cells[row + MARK] >>> 4) {
            return ZEROS_FAULT;
        }
        return NO_FAULT;
    }

    /** Whether the eight words from there on are the hash cells of entry e, or 0s without such one. */
    private boolean isHashOf(int e, int[] words, int at) {
        boolean there = hasEntry(e);
        for (int i = 0; i < HASH_WORDS; i++) {
            int due = there ? cells[e * CELLS + HASH + i] : 0;
            if (words[at + i] != due) {
                return false;
            }
        }
        return true;
    }

    // ---- ways and proofs

    public int way(int e, int level) {
        if (!hasEntry(e)) {
            return BAD;
        }
        if (level < 0 || level >= levelsTo(e)) {
            return NONE;
        }
        int x = entryCount - 1;
        for (int k = 0; k < level; k++) {
            x = nextOnWay(x, e);
        }
        return x;
    }

    public int prove(int e) {
        if (!hasEntry(e)) {
            return BAD;
        }
        int levels = levelsTo(e);
        int x = entryCount - 1;
        for (int k = 0; k < levels; k++) {
            System.arraycopy(cells, x * CELLS, proofWords, k * HASHED, HASHED);
            x = nextOnWay(x, e);
        }
        proofLength = levels * HASHED;
        return proofLength;
    }

    public int proof(int i) {
        if (i < 0 || i >= proofLength) {
            return 0;
        }
        return proofWords[i];
    }

    public int forge(int i, int w) {
        if (i < 0 || i >= proofLength) {
            return 0;
        }
        int before = proofWords[i];
        proofWords[i] = w;
        return before;
    }

    public int check(int e) {
        if (!hasEntry(e)) {
            return BAD;
        }
        return proofHolds(e) ? 1 : 0;
    }

    private boolean proofHolds(int e) {
        int levels = levelsTo(e);
        if (proofLength != levels * HASHED) {
            return false;
        }
        int[] due = headWords;
        int dueAt = 0;
        int x = entryCount - 1;
        for (int k = 0; k < levels; k++) {
            hasher.takeAll(proofWords, k * HASHED);
            if (!hasher.isAt(due, dueAt)) {
                return false;
            }
            due = proofWords;
            dueAt = k * HASHED + (goesBySkip(x, e) ? SKIP : LINK);
            x = nextOnWay(x, e);
        }
        return true;
    }

    private int levelsTo(int e) {
        int levels = 1;
        int x = entryCount - 1;
        while (x > e && levels < MOST_ENTRIES) {
            x = nextOnWay(x, e);
            levels++;
        }
        return levels;
    }

    private static int nextOnWay(int x, int e) {
        // At the end of the way there is no step; staying there keeps every index in its row.
        if (x <= e) {
            return e;
        }
        return goesBySkip(x, e) ? skipOf(x) : x - 1;
    }

    private static boolean goesBySkip(int x, int e) {
        return skipOf(x) >= e;
    }

    /** x turned to the right by k bits, 1 .. 31. */
    private static int right(int x, int k) {
        return (x >>> k) | (x << (32 - k));
    }

    /** THE HASH of 26 words, which are two blocks of 16 with what is put behind them. */
    private static final class Hasher {
        private static final int BLOCK = 16;
        private static final int ROUNDS = 64;
        private static final int BITS = 32 * HASHED;
        private static final int[] START = {
            0x6a09e667, 0xbb67ae85, 0x3c6ef372, 0xa54ff53a, 0x510e527f, 0x9b05688c, 0x1f83d9ab, 0x5be0cd19,
        };
        private static final int[] K = {
            0x428a2f98, 0x71374491, 0xb5c0fbcf, 0xe9b5dba5, 0x3956c25b, 0x59f111f1, 0x923f82a4, 0xab1c5ed5,
            0xd807aa98, 0x12835b01, 0x243185be, 0x550c7dc3, 0x72be5d74, 0x80deb1fe, 0x9bdc06a7, 0xc19bf174,
            0xe49b69c1, 0xefbe4786, 0x0fc19dc6, 0x240ca1cc, 0x2de92c6f, 0x4a7484aa, 0x5cb0a9dc, 0x76f988da,
            0x983e5152, 0xa831c66d, 0xb00327c8, 0xbf597fc7, 0xc6e00bf3, 0xd5a79147, 0x06ca6351, 0x14292967,
            0x27b70a85, 0x2e1b2138, 0x4d2c6dfc, 0x53380d13, 0x650a7354, 0x766a0abb, 0x81c2c92e, 0x92722c85,
            0xa2bfe8a1, 0xa81a664b, 0xc24b8b70, 0xc76c51a3, 0xd192e819, 0xd6990624, 0xf40e3585, 0x106aa070,
            0x19a4c116, 0x1e376c08, 0x2748774c, 0x34b0bcb5, 0x391c0cb3, 0x4ed8aa4a, 0x5b9cca4f, 0x682e6ff3,
            0x748f82ee, 0x78a5636f, 0x84c87814, 0x8cc70208, 0x90befffa, 0xa4506ceb, 0xbef9a3f7, 0xc67178f2,
        };

        private final int[] middle = new int[HASH_WORDS];
        private final int[] hash = new int[HASH_WORDS];
        private final int[] w = new int[ROUNDS];

        void takeAll(int[] words, int at) {
            takeFirst(words, at);
            takeRest(words, at);
        }

        /** The first block has no nonce in it, so a search takes it only once. */
        void takeFirst(int[] words, int at) {
            System.arraycopy(START, 0, middle, 0, HASH_WORDS);
            System.arraycopy(words, at, w, 0, BLOCK);
            mixInto(middle);
        }

        void takeRest(int[] words, int at) {
            int rest = HASHED - BLOCK;
            System.arraycopy(middle, 0, hash, 0, HASH_WORDS);
            System.arraycopy(words, at + BLOCK, w, 0, rest);
            w[rest] = 1 << 31;
            Arrays.fill(w, rest + 1, BLOCK - 1, 0);
            w[BLOCK - 1] = BITS;
            mixInto(hash);
        }

        boolean isAt(int[] words, int at) {
            for (int i = 0; i < HASH_WORDS; i++) {
                if (words[at + i] != hash[i]) {
                    return false;
                }
            }
            return true;
        }

        void copyTo(int[] words, int at) {
            System.arraycopy(hash, 0, words, at, HASH_WORDS);
        }

        int zeros() {
            for (int i = 0; i < HASH_WORDS; i++) {
                if (hash[i] != 0) {
                    return 32 * i + Integer.numberOfLeadingZeros(hash[i]);
                }
            }
            return 32 * HASH_WORDS;
        }

        private void mixInto(int[] sum) {
            spread();
            int a = sum[0];
            int b = sum[1];
            int c = sum[2];
            int d = sum[3];
            int e = sum[4];
            int f = sum[5];
            int g = sum[6];
            int h = sum[7];
            for (int t = 0; t < ROUNDS; t++) {
                int x = h + (right(e, 6) ^ right(e, 11) ^ right(e, 25)) + ((e & f) ^ (~e & g)) + K[t] + w[t];
                int y = (right(a, 2) ^ right(a, 13) ^ right(a, 22)) + ((a & b) ^ (a & c) ^ (b & c));
                h = g;
                g = f;
                f = e;
                e = d + x;
                d = c;
                c = b;
                b = a;
                a = x + y;
            }
            sum[0] += a;
            sum[1] += b;
            sum[2] += c;
            sum[3] += d;
            sum[4] += e;
            sum[5] += f;
            sum[6] += g;
            sum[7] += h;
        }

        private void spread() {
            for (int t = BLOCK; t < ROUNDS; t++) {
                int a = w[t - 15];
                int b = w[t - 2];
                w[t] = w[t - 16] + (right(a, 7) ^ right(a, 18) ^ (a >>> 3))
                    + w[t - 7] + (right(b, 17) ^ right(b, 19) ^ (b >>> 10));
            }
        }
    }

    /** THE FILTER: bits that are all set for every word that was included. */
    private static final class Filter {
        private static final int BITS = 1024;
        private static final int BITS_OF_WORD = 4;
        private static final int FIRST_SEED = 0;
        private static final int SECOND_SEED = (int) 2538058380L;

        private final int[] bits = new int[BITS / 32];

        void clear() {
            Arrays.fill(bits, 0);
        }

        void include(int word) {
            for (int i = 0; i < BITS_OF_WORD; i++) {
                int bit = bitOf(word, i);
                bits[bit >>> 5] |= 1 << (bit & 31);
            }
        }

        boolean mayHave(int word) {
            for (int i = 0; i < BITS_OF_WORD; i++) {
                int bit = bitOf(word, i);
                if ((bits[bit >>> 5] & (1 << (bit & 31))) == 0) {
                    return false;
                }
            }
            return true;
        }

        private static int bitOf(int word, int i) {
            return (stirred(word, FIRST_SEED) + i * stirred(word, SECOND_SEED)) & (BITS - 1);
        }

        /** STIR. */
        static int stirred(int x, int s) {
            int k = x * (int) 3432918353L;
            k = right(k, 17) * 461845907;
            int h = s ^ k;
            h = right(h, 19) * 5 + (int) 3864292196L;
            h = h ^ 4;
            h = (h ^ (h >>> 16)) * (int) 2246822507L;
            h = (h ^ (h >>> 13)) * (int) 3266489909L;
            return h ^ (h >>> 16);
        }
    }
}
