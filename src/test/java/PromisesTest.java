/** Each promise of the document by itself: ordinary inputs, edges and wrong inputs. */
public final class PromisesTest extends LedgerChecks {
    public static void main(String[] args) {
        PromisesTest test = new PromisesTest();
        test.newObject();
        test.put();
        test.takeBack();
        test.pending();
        test.difficulty();
        test.mine();
        test.mineAllNonces();
        test.mineTheLastNonce();
        test.mineAsItWouldBeNow();
        test.tried();
        test.commit();
        test.commitFull();
        test.count();
        test.head();
        test.cell();
        test.spoil();
        test.drop();
        test.may();
        test.find();
        test.findBehindTheLast();
        test.stir();
        test.begin();
        test.audit();
        test.auditPlaceAndDrop();
        test.faultsOfEntries();
        test.faultsOfZeros();
        test.faultsOfHead();
        test.faultOfHeadMended();
        test.way();
        test.prove();
        test.proof();
        test.forge();
        test.check();
        test.checkLinkOrSkip();
        test.end();
    }

    private void newObject() {
        about("promise 1");
        int[][] asked = {{LOWEST, 0}, {-1, 0}, {0, 0}, {1, 1}, {19, 19}, {20, 20}, {21, 20}, {HIGHEST, 20}};
        for (int[] pair : asked) {
            MinedLedger x = new MinedLedger(pair[0]);
            due("count()", x.count(), 0);
            due("tried()", x.tried(), 0);
            due("fault()", x.fault(), 0);
            due("begin()", x.begin(), 0);
            due("pending(0)", x.pending(0), 0);
            due("proof(0)", x.proof(0), 0);
            due("commit()", x.commit(), REFUSED);
            same("head", heads(x), new int[8]);
            due("difficulty(0) of a new one with " + pair[0], x.difficulty(0), pair[1]);
        }
    }

    private void put() {
        about("promise 2");
        MinedLedger x = new MinedLedger(0);
        for (int k = 1; k <= 8; k++) {
            due("put", x.put(k * 11), k);
        }
        due("the ninth put", x.put(99), REFUSED);
        due("pending(7)", x.pending(7), 88);
        due("mine(1)", x.mine(1), 0);
        due("put", x.put(99), REFUSED);
        due("tried() after a refused put", x.tried(), 1);
        due("commit() after a refused put", x.commit(), 0);
        due("put", x.put(0), 1);
        due("mine(1)", x.mine(1), 0);
        due("put", x.put(0), 2);
        due("tried() after a put", x.tried(), 0);
        due("commit() after a put", x.commit(), REFUSED);
    }

    private void takeBack() {
        about("promise 3");
        MinedLedger x = new MinedLedger(0);
        due("takeBack(1) of none", x.takeBack(1), BAD);
        for (int k = 1; k <= 8; k++) {
            x.put(k);
        }
        due("mine(1)", x.mine(1), 0);
        for (int n : new int[] {LOWEST, -1, 0, 9, HIGHEST}) {
            due("takeBack(" + n + ")", x.takeBack(n), BAD);
        }
        due("tried() after a bad one", x.tried(), 1);
        due("takeBack(3)", x.takeBack(3), 5);
        due("tried()", x.tried(), 0);
        due("commit()", x.commit(), REFUSED);
        due("pending(4)", x.pending(4), 5);
        due("pending(5)", x.pending(5), 0);
        due("put(60)", x.put(60), 6);
        due("mine(1)", x.mine(1), 0);
        due("commit()", x.commit(), 0);
        same("words", cells(x, 0, 16, 25), new int[] {1, 2, 3, 4, 5, 60, 0, 0, 6});
        x.put(1);
        x.put(2);
        due("takeBack(2)", x.takeBack(2), 0);
        due("takeBack(1)", x.takeBack(1), BAD);
    }

    private void pending() {
        about("promise 4");
        MinedLedger x = new MinedLedger(0);
        due("pending(0)", x.pending(0), 0);
        for (int k = 0; k < 8; k++) {
            x.put(-5 - k);
        }
        for (int i = 0; i < 8; i++) {
            due("pending(" + i + ")", x.pending(i), -5 - i);
        }
        for (int i : new int[] {LOWEST, -1, 8, 9, 34, HIGHEST}) {
            due("pending(" + i + ")", x.pending(i), 0);
        }
        x.mine(1);
        due("pending(8) with a nonce kept", x.pending(8), 0);
        append(x, 0);
        due("pending(0) of the next one", x.pending(0), 0);
    }

    private void difficulty() {
        about("promise 5");
        MinedLedger x = new MinedLedger(3);
        due("difficulty(20)", x.difficulty(20), 3);
        due("difficulty(0)", x.difficulty(0), 20);
        due("mine(1)", x.mine(1), 0);
        for (int d : new int[] {LOWEST, -1, 21, HIGHEST}) {
            due("difficulty(" + d + ")", x.difficulty(d), BAD);
        }
        due("tried() after a bad one", x.tried(), 1);
        due("difficulty(0), as it was", x.difficulty(0), 0);
        due("tried() after the same one was told", x.tried(), 0);
        due("commit()", x.commit(), REFUSED);
        x.difficulty(6);
        x.put(1);
        append(x, 0);
        due("cell 24", x.cell(0, 24), 6 * 16 + 1);
        due("difficulty(0)", x.difficulty(0), 6);
    }

    private void mine() {
        about("promise 6");
        MinedLedger x = new MinedLedger(0);
        for (int n : new int[] {LOWEST, -1, 0, 3001, HIGHEST}) {
            due("mine(" + n + ")", x.mine(n), BAD);
        }
        due("tried()", x.tried(), 0);
        due("mine(3000)", x.mine(3000), 0);
        due("mine(0) with one kept", x.mine(0), BAD);
        due("mine(3000) with one kept", x.mine(3000), 0);
        due("tried()", x.tried(), 1);
        for (int d = 1; d <= 11; d++) {
            int[] words = new int[26];
            words[16] = -d;
            words[24] = 16 * d + 1;
            int nonce = Reference.nonce(words, 0, 100000, d);
            x = new MinedLedger(d);
            x.put(-d);
            for (int k = 0; k < nonce; k += 500) {
                int n = Math.min(500, nonce - k);
                due("mine(" + n + ") before the nonce", x.mine(n), NONE);
            }
            due("mine(1) for " + d, x.mine(1), nonce);
            due("tried()", x.tried(), nonce + 1);
        }
    }

    private void mineAllNonces() {
        about("promise 6, all nonces");
        MinedLedger x = new MinedLedger(20);
        x.put(1);
        for (int k = 0; k < 33; k++) {
            due("mine(3000)", x.mine(3000), NONE);
        }
        due("mine(3000) with 1000 left", x.mine(3000), NONE);
        due("tried()", x.tried(), 100000);
        due("mine(1)", x.mine(1), REFUSED);
        due("mine(3000)", x.mine(3000), REFUSED);
        due("mine(3001)", x.mine(3001), BAD);
        due("mine(0)", x.mine(0), BAD);
        due("commit()", x.commit(), REFUSED);
        due("tried()", x.tried(), 100000);
        x.takeBack(1);
        due("tried()", x.tried(), 0);
        due("mine(1)", x.mine(1), NONE);
    }

    private void mineTheLastNonce() {
        about("promise 6, the last nonce");
        MinedLedger x = new MinedLedger(17);
        // Found by a search: the first nonce that does for this word is 99999.
        x.put(384324);
        for (int k = 0; k < 33; k++) {
            due("mine(3000)", x.mine(3000), NONE);
        }
        due("mine(999)", x.mine(999), NONE);
        due("mine(2)", x.mine(2), 99999);
        due("tried()", x.tried(), 100000);
        due("mine(1) with the last one kept", x.mine(1), 99999);
        due("commit()", x.commit(), 0);
        due("cell(0, 25)", x.cell(0, 25), 99999);
    }

    private void mineAsItWouldBeNow() {
        about("promise 6, as it would be now");
        MinedLedger x = grown(4);
        x.put(77);
        x.spoil(3, 26, 5);
        x.spoil(0, 33, 6);
        x.difficulty(7);
        int[] words = new int[26];
        System.arraycopy(cells(x, 3, 26, 34), 0, words, 0, 8);
        System.arraycopy(cells(x, 0, 26, 34), 0, words, 8, 8);
        words[16] = 77;
        words[24] = 7 * 16 + 1;
        int nonce = Reference.nonce(words, 0, 3000, 7);
        due("mine(3000)", x.mine(3000), nonce);
        due("commit()", x.commit(), 4);
        words[25] = nonce;
        same("cells", cells(x, 4, 0, 26), words);
        same("hash", cells(x, 4, 26, 34), Reference.hash(words));
    }

    private void tried() {
        about("promise 7");
        MinedLedger x = grown(2);
        due("tried() after commit", x.tried(), 0);
        x.difficulty(20);
        x.mine(10);
        x.mine(7);
        due("tried()", x.tried(), 17);
        x.find(100);
        x.audit(5);
        x.begin();
        x.prove(0);
        x.forge(0, 1);
        x.check(0);
        x.mine(0);
        x.commit();
        x.takeBack(1);
        x.difficulty(21);
        x.spoil(2, 0, 0);
        x.spoil(0, 34, 0);
        due("tried() after what forgets nothing", x.tried(), 17);
        x.spoil(0, 16, x.cell(0, 16));
        due("tried() after a cell became what it was", x.tried(), 0);
        x.mine(3);
        due("tried()", x.tried(), 3);
        x.drop();
        due("tried() after drop", x.tried(), 0);
        x.drop();
        x.mine(4);
        due("drop() of none", x.drop(), NONE);
        due("tried() after drop of none", x.tried(), 4);
        x.put(1);
        due("tried() after put", x.tried(), 0);
        x.mine(5);
        x.takeBack(1);
        due("tried() after takeBack", x.tried(), 0);
    }

    private void commit() {
        about("promise 8");
        due("commit() of a new one", new MinedLedger(5).commit(), REFUSED);
        for (int e = 0; e < 20; e++) {
            commitOf(e);
        }
    }

    /** A ledger for each, as one object is not used for more than 512 calls. */
    private void commitOf(int e) {
        MinedLedger x = new MinedLedger(5);
        for (int before = 0; before < e; before++) {
            putWords(x, before);
            append(x, before);
        }
        putWords(x, e);
        int[] head = heads(x);
        int nonce = x.mine(3000);
        due("commit()", x.commit(), e);
        due("commit() again", x.commit(), REFUSED);
        due("pending(0)", x.pending(0), 0);
        same("link", cells(x, e, 0, 8), head);
        int skip = e - Integer.lowestOneBit(e);
        same("skip", cells(x, e, 8, 16), e == 0 ? new int[8] : cells(x, skip, 26, 34));
        for (int k = 0; k < 8; k++) {
            due("word " + k, x.cell(e, 16 + k), k < e % 9 ? 1000 * e + k : 0);
        }
        due("cell 24", x.cell(e, 24), 5 * 16 + e % 9);
        due("cell 25", x.cell(e, 25), nonce);
        same("hash", cells(x, e, 26, 34), Reference.hash(cells(x, e, 0, 26)));
        due("put of the next one", x.put(1), 1);
    }

    private static void putWords(MinedLedger x, int e) {
        for (int k = 0; k < e % 9; k++) {
            x.put(1000 * e + k);
        }
    }

    private void commitFull() {
        about("promise 8, full");
        MinedLedger x = grown(60);
        due("commit() without a nonce", x.commit(), FULL);
        x.put(4);
        due("mine(1)", x.mine(1), 0);
        due("commit() with a nonce", x.commit(), FULL);
        due("count()", x.count(), 60);
        due("tried()", x.tried(), 1);
        due("pending(0)", x.pending(0), 4);
        due("mine(1)", x.mine(1), 0);
        due("audit(100)", x.audit(100), CLEAN);
        due("drop()", x.drop(), 59);
        due("commit()", x.commit(), REFUSED);
        append(x, 59);
        due("cell(59, 16)", x.cell(59, 16), 4);
        due("cell(60, 16)", x.cell(60, 16), 0);
        due("commit()", x.commit(), FULL);
    }

    private void count() {
        about("promise 9");
        for (int n : new int[] {0, 1, 2, 59, 60}) {
            due("count()", grown(n).count(), n);
        }
        MinedLedger x = grown(3);
        x.drop();
        due("count()", x.count(), 2);
        x.put(1);
        x.mine(1);
        due("count() before commit", x.count(), 2);
    }

    private void head() {
        about("promise 10");
        MinedLedger x = new MinedLedger(0);
        same("head of none", heads(x), new int[8]);
        for (int e = 0; e < 5; e++) {
            append(x, e);
            same("head", heads(x), cells(x, e, 26, 34));
        }
        for (int i : new int[] {LOWEST, -1, 8, 9, HIGHEST}) {
            due("head(" + i + ")", x.head(i), 0);
        }
        int[] head = heads(x);
        x.spoil(4, 26, 1);
        same("head after its entry's hash was spoiled", heads(x), head);
        x.put(1);
        x.mine(1);
        same("head before commit", heads(x), head);
    }

    private void cell() {
        about("promise 11");
        MinedLedger x = grown(3);
        due("cell(2, 16)", x.cell(2, 16), 102);
        due("cell(2, 24)", x.cell(2, 24), 1);
        due("cell(2, 33)", x.cell(2, 33), x.head(7));
        due("cell(1, 0)", x.cell(1, 0), x.cell(0, 26));
        for (int e : new int[] {LOWEST, -1, 3, 59, 60, 61, HIGHEST}) {
            due("cell(" + e + ", 16)", x.cell(e, 16), 0);
        }
        for (int i : new int[] {LOWEST, -1, -18, 34, 50, HIGHEST}) {
            due("cell(1, " + i + ")", x.cell(1, i), 0);
        }
        x.drop();
        due("cell(2, 16) of a dropped one", x.cell(2, 16), 0);
    }

    private void spoil() {
        about("promise 12");
        MinedLedger x = grown(3);
        for (int i = 0; i < 34; i++) {
            int was = x.cell(1, i);
            due("spoil(1, " + i + ", ..)", x.spoil(1, i, 7000 + i), was);
            due("cell(1, " + i + ")", x.cell(1, i), 7000 + i);
        }
        same("the cells before", cells(x, 0, 0, 34), cells(grown(3), 0, 0, 34));
        same("the cells behind", cells(x, 2, 0, 34), cells(grown(3), 2, 0, 34));
        x.mine(1);
        for (int e : new int[] {LOWEST, -1, 3, 60, HIGHEST}) {
            due("spoil(" + e + ", 16, 5)", x.spoil(e, 16, 5), 0);
        }
        for (int i : new int[] {LOWEST, -1, 34, HIGHEST}) {
            due("spoil(1, " + i + ", 5)", x.spoil(1, i, 5), 0);
        }
        due("tried() after spoiling none", x.tried(), 1);
        due("cell(1, 33)", x.cell(1, 33), 7033);
        due("cell(2, 0)", x.cell(2, 0), grown(3).cell(2, 0));
        due("spoil(2, 16, 5)", x.spoil(2, 16, 5), 102);
        due("tried()", x.tried(), 0);
        due("commit()", x.commit(), REFUSED);
    }

    private void drop() {
        about("promise 13");
        MinedLedger x = new MinedLedger(0);
        due("drop() of none", x.drop(), NONE);
        x = grown(5);
        x.put(9);
        x.mine(1);
        int[] link = cells(x, 4, 0, 8);
        due("drop()", x.drop(), 4);
        same("head", heads(x), link);
        due("count()", x.count(), 4);
        due("tried()", x.tried(), 0);
        due("pending(0)", x.pending(0), 9);
        due("may(104)", x.may(104), 0);
        due("may(103)", x.may(103), 1);
        x.spoil(3, 2, 222);
        x.spoil(1, 16, 4444);
        due("may(4444) before", x.may(4444), 0);
        due("may(101) before", x.may(101), 1);
        due("drop()", x.drop(), 3);
        due("head(2), the link as it stands", x.head(2), 222);
        due("may(4444), made anew from what stands", x.may(4444), 1);
        due("may(100), of entry 0", x.may(100), 1);
        due("may(101), made anew", x.may(101), 0);
        due("find(4444)", x.find(4444), 1);
        due("drop()", x.drop(), 2);
        due("drop()", x.drop(), 1);
        x.spoil(0, 5, 55);
        due("drop()", x.drop(), 0);
        due("head(5) without entries", x.head(5), 55);
        for (int word = 0; word < 200; word++) {
            due("may(" + word + ") without entries", x.may(word), 0);
        }
        due("drop()", x.drop(), NONE);
        due("head(5)", x.head(5), 55);
        append(x, 0);
        due("cell(0, 5): there is none before", x.cell(0, 5), 0);
        same("head", heads(x), cells(x, 0, 26, 34));
    }

    private void may() {
        about("promise 14");
        MinedLedger x = new MinedLedger(0);
        due("may(0)", x.may(0), 0);
        x.put(5);
        due("may(5) while pending", x.may(5), 0);
        append(x, 0);
        due("may(5)", x.may(5), 1);
        due("may(0), of the words not put", x.may(0), 1);
        due("may(6)", x.may(6), 0);
        boolean[] bits = new boolean[1024];
        x = new MinedLedger(0);
        for (int e = 0; e < 20; e++) {
            for (int k = 0; k < 8; k++) {
                int word = 1 + 8 * e + k;
                x.put(word);
                for (int bit : Reference.filterBits(word)) {
                    bits[bit] = true;
                }
            }
            append(x, e);
        }
        for (int word = -100; word < 200; word++) {
            boolean all = true;
            for (int bit : Reference.filterBits(word)) {
                all &= bits[bit];
            }
            due("may(" + word + ")", x.may(word), all ? 1 : 0);
        }
    }

    private void find() {
        about("promise 15");
        MinedLedger x = new MinedLedger(0);
        due("find(0)", x.find(0), NONE);
        for (int e = 0; e < 10; e++) {
            for (int k = 0; k < 8; k++) {
                x.put(e == 7 ? 3 * 8 + k + 1 : 8 * e + k + 1);
            }
            append(x, e);
        }
        for (int word = 1; word <= 80; word++) {
            int e = (word - 1) / 8;
            due("find(" + word + ")", x.find(word), e == 7 ? NONE : e);
        }
        due("find(0)", x.find(0), NONE);
        due("find(123456)", x.find(123456), NONE);
        x.spoil(2, 20, 80);
        due("find(80), as the cells stand", x.find(80), 2);
        x.spoil(2, 21, 987654);
        due("may(987654)", x.may(987654), 0);
        due("find(987654): it may not be there", x.find(987654), NONE);
        due("find(22), spoiled away", x.find(22), NONE);
        x.spoil(1, 15, 33);
        x.spoil(1, 24, 33);
        due("find(33), outside the words' cells", x.find(33), 4);
        x.drop();
        due("find(987654) with the filter anew", x.find(987654), 2);
        due("find(73) of a dropped entry", x.find(73), NONE);
    }

    private void findBehindTheLast() {
        about("promise 15, behind the last entry");
        MinedLedger x = new MinedLedger(0);
        for (int e = 0; e < 2; e++) {
            x.put(5);
            append(x, e);
        }
        x.drop();
        x.spoil(0, 16, 6);
        due("may(5)", x.may(5), 1);
        due("find(5), which only the dropped entry had", x.find(5), NONE);
        x = grown(60);
        x.spoil(59, 16, 6);
        due("may(159)", x.may(159), 1);
        due("find(159) of sixty", x.find(159), NONE);
        due("find(158) of sixty", x.find(158), 58);
    }

    private void stir() {
        about("promise 16");
        MinedLedger x = new MinedLedger(0);
        // Values of MurmurHash3 that others have published.
        due("stir of 'test'", x.stir(0x74736574, 0), 0xba6bd213);
        due("stir of 'test' with a seed", x.stir(0x74736574, 0x9747b28c), 0x704b81dc);
        due("stir of all bits", x.stir(-1, 0), 0x76293b50);
        due("stir(0, 0)", x.stir(0, 0), 0x2362f9de);
        due("stir with a seed", x.stir(0x87654321, 0x5082edee), 0x2362f9de);
        int word = 1;
        for (int k = 0; k < 200; k++) {
            word = word * 1664525 + 1013904223;
            int seed = Integer.reverse(word) ^ k;
            due("stir(" + word + ", " + seed + ")", x.stir(word, seed), Reference.stir(word, seed));
        }
    }

    private void begin() {
        about("promise 17");
        MinedLedger x = grown(5);
        due("begin()", x.begin(), 0);
        x.audit(3);
        due("begin()", x.begin(), 3);
        due("begin()", x.begin(), 0);
        x.audit(100);
        due("begin()", x.begin(), 5);
        x.spoil(2, 17, 1);
        x.audit(100);
        due("fault()", x.fault(), 3);
        due("begin()", x.begin(), 2);
        due("fault() after begin", x.fault(), 3);
        x.audit(1);
        due("begin()", x.begin(), 1);
    }

    private void audit() {
        about("promise 18");
        MinedLedger x = new MinedLedger(0);
        due("audit(1) of none", x.audit(1), CLEAN);
        x = grown(5);
        for (int n : new int[] {LOWEST, -1, 0, 101, HIGHEST}) {
            due("audit(" + n + ")", x.audit(n), BAD);
        }
        due("begin()", x.begin(), 0);
        due("audit(2)", x.audit(2), NONE);
        due("audit(2)", x.audit(2), NONE);
        due("audit(2), with room for the head", x.audit(2), CLEAN);
        due("audit(1)", x.audit(1), CLEAN);
        due("begin()", x.begin(), 5);
        due("audit(5), just room for the entries", x.audit(5), NONE);
        due("audit(1)", x.audit(1), CLEAN);
        x.begin();
        due("audit(6)", x.audit(6), CLEAN);
        append(x, 5);
        due("audit(1) of a new entry", x.audit(1), NONE);
        due("audit(1)", x.audit(1), CLEAN);
        x.spoil(3, 20, 1);
        due("audit(1) behind the spoiled one", x.audit(1), CLEAN);
        x.begin();
        due("audit(3) before the spoiled one", x.audit(3), NONE);
        due("audit(1)", x.audit(1), 3);
        due("audit(100) stays", x.audit(100), 3);
        x.spoil(3, 20, 0);
        due("audit(100), mended", x.audit(100), CLEAN);
        due("audit(100) of sixty", grown(60).audit(100), CLEAN);
        due("audit(60) of sixty", grown(60).audit(60), NONE);
    }

    private void auditPlaceAndDrop() {
        about("promise 18, a drop");
        MinedLedger x = grown(5);
        x.audit(100);
        x.drop();
        due("begin(): the place went down", x.begin(), 4);
        x.audit(2);
        x.drop();
        due("begin(): the place stayed", x.begin(), 2);
        x.audit(3);
        x.drop();
        append(x, 2);
        due("audit(1) of what was appended", x.audit(1), NONE);
        due("begin()", x.begin(), 3);
    }

    private void faultsOfEntries() {
        about("promise 19, faults 1 to 3");
        int[][] rows = {{0, 0, 1}, {0, 7, 1}, {0, 8, 2}, {0, 15, 2}, {0, 16, 3}, {0, 25, 3}, {0, 26, 3}, {0, 33, 3},
            {4, 0, 1}, {4, 7, 1}, {4, 8, 2}, {4, 15, 2}, {4, 23, 3}, {4, 24, 3}, {4, 26, 3}, {4, 33, 3}, {5, 33, 3}};
        for (int[] row : rows) {
            MinedLedger x = grown(6);
            due("fault() without an audit", x.fault(), 0);
            x.spoil(row[0], row[1], 12345);
            due("audit(50)", x.audit(50), row[0]);
            due("fault() of cell " + row[1], x.fault(), row[2]);
            due("audit(0)", x.audit(0), BAD);
            due("fault() after a bad one", x.fault(), row[2]);
            x.begin();
            x.audit(1);
            due("fault() of the latest", x.fault(), row[0] == 0 ? row[2] : 0);
        }
        MinedLedger x = grown(6);
        x.spoil(1, 20, 1);
        rehash(x, 1);
        due("audit(50) with the hash of others", x.audit(50), 2);
        due("fault(): the link is no more its hash", x.fault(), 1);
        for (int i = 0; i < 8; i++) {
            x.spoil(2, i, x.cell(1, 26 + i));
        }
        due("audit(50)", x.audit(50), 2);
        due("fault()", x.fault(), 3);
        for (int i = 0; i < 34; i++) {
            x.spoil(2, i, 1);
        }
        due("audit(50)", x.audit(50), 2);
        due("fault(): the first that is so", x.fault(), 1);
    }

    private void faultsOfZeros() {
        about("promise 19, fault 4");
        MinedLedger x = grown(2);
        // The least mark under which the hash has too few zeros, and the one before it.
        int mark = 0;
        x.spoil(1, 24, mark);
        rehash(x, 1);
        while (Reference.zeros(cells(x, 1, 26, 34)) >= mark >>> 4 && mark < 4096) {
            due("audit(50)", x.audit(50), 1);
            due("fault(): zeros enough", x.fault(), 5);
            mark += 16;
            x.spoil(1, 24, mark);
            rehash(x, 1);
            x.begin();
        }
        due("audit(50)", x.audit(50), 1);
        due("fault(): too few zeros", x.fault(), 4);
        due("begin()", x.begin(), 1);
        for (int high : new int[] {-1, LOWEST, HIGHEST, 257 * 16}) {
            x.spoil(1, 24, high);
            rehash(x, 1);
            x.begin();
            due("audit(50)", x.audit(50), 1);
            due("fault() of mark " + high, x.fault(), 4);
        }
        x.spoil(1, 24, 15);
        rehash(x, 1);
        x.begin();
        due("audit(50)", x.audit(50), 1);
        due("fault() of mark 15", x.fault(), 5);
    }

    private void faultsOfHead() {
        about("promise 19, faults 5 and 6");
        MinedLedger x = grown(3);
        x.spoil(2, 7, 1);
        x.drop();
        due("audit(2)", x.audit(2), NONE);
        due("fault()", x.fault(), 0);
        due("audit(1)", x.audit(1), 1);
        due("fault()", x.fault(), 5);
        due("audit(9) stays", x.audit(9), 1);
        due("begin()", x.begin(), 2);
        x.drop();
        due("audit(9)", x.audit(9), CLEAN);
        due("fault()", x.fault(), 0);
        x.spoil(0, 7, 1);
        x.drop();
        due("audit(1)", x.audit(1), 0);
        due("fault()", x.fault(), 6);
        due("audit(1)", x.audit(1), 0);
        due("begin()", x.begin(), 0);
        append(x, 0);
        due("audit(9)", x.audit(9), CLEAN);
        due("fault()", x.fault(), 0);
    }

    private void faultOfHeadMended() {
        about("promise 19, fault 5 mended");
        MinedLedger x = grown(3);
        x.spoil(2, 7, 1);
        x.drop();
        due("audit(9)", x.audit(9), 1);
        due("fault()", x.fault(), 5);
        x.spoil(1, 33, 1);
        due("audit(9) with the hash cells as the head", x.audit(9), CLEAN);
        due("fault() of a clean audit after a fault", x.fault(), 0);
        x.begin();
        due("audit(9)", x.audit(9), 1);
        due("fault()", x.fault(), 3);
    }

    private void way() {
        about("promise 20");
        MinedLedger x = new MinedLedger(0);
        due("way(0, 0) of none", x.way(0, 0), BAD);
        x = grown(60);
        int[][] ways = {{59, 59}, {58, 59, 58}, {57, 59, 58, 57}, {56, 59, 58, 56}, {0, 59, 58, 56, 48, 32, 0},
            {1, 59, 58, 56, 48, 32, 31, 30, 28, 24, 16, 15, 14, 12, 8, 7, 6, 4, 3, 2, 1},
            {17, 59, 58, 56, 48, 32, 31, 30, 28, 24, 23, 22, 20, 19, 18, 17}, {40, 59, 58, 56, 48, 47, 46, 44, 40}};
        for (int[] way : ways) {
            for (int level = 0; level < way.length - 1; level++) {
                due("way(" + way[0] + ", " + level + ")", x.way(way[0], level), way[level + 1]);
            }
            for (int level : new int[] {LOWEST, -1, way.length - 1, way.length, 60, HIGHEST}) {
                due("way(" + way[0] + ", " + level + ")", x.way(way[0], level), NONE);
            }
        }
        for (int e : new int[] {LOWEST, -1, 60, 61, HIGHEST}) {
            due("way(" + e + ", 0)", x.way(e, 0), BAD);
            due("way(" + e + ", -1)", x.way(e, -1), BAD);
        }
        due("way(0, 0) of one", grown(1).way(0, 0), 0);
        due("way(0, 1) of one", grown(1).way(0, 1), NONE);
    }

    private void prove() {
        about("promise 21");
        MinedLedger x = new MinedLedger(0);
        due("prove(0) of none", x.prove(0), BAD);
        x = grown(60);
        due("prove(1)", x.prove(1), 20 * 26);
        due("prove(0)", x.prove(0), 6 * 26);
        due("prove(59)", x.prove(59), 26);
        for (int e : new int[] {LOWEST, -1, 60, HIGHEST}) {
            due("prove(" + e + ")", x.prove(e), BAD);
        }
        due("proof(16) is still there", x.proof(16), 159);
        due("proof(26)", x.proof(26), 0);
        x.spoil(59, 16, 7);
        due("proof(16), made before", x.proof(16), 159);
        due("prove(59)", x.prove(59), 26);
        due("proof(16), the cells as they stand", x.proof(16), 7);
        x.drop();
        due("proof(16) after drop", x.proof(16), 7);
        due("prove(59)", x.prove(59), BAD);
    }

    private void proof() {
        about("promise 22");
        MinedLedger x = grown(23);
        due("proof(0) of none", x.proof(0), 0);
        x.prove(9);
        MinedLedger alike = grown(23);
        int[] way = {22, 20, 16, 15, 14, 12, 11, 10, 9};
        for (int k = 0; k < way.length; k++) {
            for (int i = 0; i < 26; i++) {
                due("proof(" + (26 * k + i) + ")", x.proof(26 * k + i), alike.cell(way[k], i));
            }
        }
        for (int i : new int[] {LOWEST, -1, 26 * way.length, 1559, 1560, HIGHEST}) {
            due("proof(" + i + ")", x.proof(i), 0);
        }
        x.prove(22);
        due("proof(16)", x.proof(16), 122);
        due("proof(26) of the one before", x.proof(26), 0);
        due("proof(42) of the one before", x.proof(42), 0);
    }

    private void forge() {
        about("promise 23");
        MinedLedger x = grown(6);
        due("forge(0, 5) of none", x.forge(0, 5), 0);
        due("proof(0)", x.proof(0), 0);
        int words = x.prove(4);
        due("prove(4)", words, 52);
        for (int i : new int[] {LOWEST, -1, words, 1560, HIGHEST}) {
            due("forge(" + i + ", 5)", x.forge(i, 5), 0);
            due("proof(" + i + ")", x.proof(i), 0);
        }
        due("check(4)", x.check(4), 1);
        for (int i = 0; i < words; i++) {
            int was = x.proof(i);
            due("forge(" + i + ", ..)", x.forge(i, ~was), was);
            due("proof(" + i + ")", x.proof(i), ~was);
            due("check(4)", x.check(4), 0);
            due("forge back", x.forge(i, was), ~was);
            due("check(4)", x.check(4), 1);
        }
        x.forge(16, 9);
        due("cell(5, 16)", x.cell(5, 16), 105);
    }

    private void check() {
        about("promise 24");
        MinedLedger x = new MinedLedger(0);
        due("check(0) of none", x.check(0), BAD);
        x = grown(14);
        due("check(0) without a proof", x.check(0), 0);
        for (int e : new int[] {LOWEST, -1, 14, HIGHEST}) {
            due("check(" + e + ")", x.check(e), BAD);
        }
        for (int e = 0; e < 14; e++) {
            x.prove(e);
            for (int other = 0; other < 14; other++) {
                due("check(" + other + ") of a proof of " + e, x.check(other), e == other ? 1 : 0);
            }
        }
        x.prove(7);
        x.spoil(7, 16, 5);
        due("check(7) of a proof made before", x.check(7), 1);
        x.prove(7);
        due("check(7) of a spoiled entry", x.check(7), 0);
        x.spoil(7, 16, 107);
        x.prove(7);
        append(x, 14);
        due("check(7) after an entry more", x.check(7), 0);
        x.drop();
        due("check(7) with the head as it was", x.check(7), 1);
        x.spoil(13, 0, 3);
        x.drop();
        x.prove(12);
        due("check(12) under a spoiled head", x.check(12), 0);
        MinedLedger y = grown(60);
        for (int e = 0; e < 60; e++) {
            y.prove(e);
            due("check(" + e + ") of sixty", y.check(e), 1);
        }
    }

    /** Entries in which link and skip differ where they need not show which one a step looks at. */
    private void checkLinkOrSkip() {
        about("promise 24, link or skip");
        int[][] steps = {{3, 2, 8}, {2, 1, 0}, {2, 0, 8}, {1, 0, 8}, {6, 5, 0}, {6, 4, 8}};
        for (int[] step : steps) {
            for (int spoiled : new int[] {0, 8}) {
                MinedLedger x = grown(step[0] + 1);
                x.spoil(step[0], spoiled, 1);
                rehash(x, step[0]);
                // The next entry's link brings the spoiled entry's new hash to the head.
                append(x, step[0] + 1);
                x.drop();
                x.prove(step[1]);
                String call = "check(" + step[1] + ") of " + step[0] + " with cell " + spoiled + " spoiled";
                due(call, x.check(step[1]), spoiled == step[2] ? 0 : 1);
            }
        }
    }
}
