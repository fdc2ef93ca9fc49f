import java.util.Arrays;

/** What the tests of single promises share: ledgers that have grown, and how an answer is looked at. */
abstract class LedgerChecks {
    static final int NONE = MinedLedger.NONE;
    static final int BAD = MinedLedger.BAD;
    static final int REFUSED = MinedLedger.REFUSED;
    static final int FULL = MinedLedger.FULL;
    static final int CLEAN = MinedLedger.CLEAN;
    static final int LOWEST = Integer.MIN_VALUE;
    static final int HIGHEST = Integer.MAX_VALUE;

    private final Checks checks = new Checks();
    private String subject = "";

    /** What the next answers are about; it is printed with each that is wrong. */
    void about(String what) {
        subject = what;
    }

    void due(String call, int got, int want) {
        checks.due(subject + ": " + call, got, want);
    }

    void same(String what, int[] got, int[] want) {
        due(what + " " + Arrays.toString(got) + " as " + Arrays.toString(want), Arrays.equals(got, want) ? 1 : 0, 1);
    }

    void end() {
        checks.end(getClass().getName());
    }

    /** A ledger of difficulty 0 with so many entries; entry e has the word 100 + e. */
    MinedLedger grown(int entries) {
        MinedLedger x = new MinedLedger(0);
        for (int e = 0; e < entries; e++) {
            x.put(100 + e);
            append(x, e);
        }
        return x;
    }

    void append(MinedLedger x, int number) {
        int nonce = NONE;
        for (int k = 0; k < 40 && nonce == NONE; k++) {
            nonce = x.mine(3000);
        }
        due("commit()", x.commit(), number);
    }

    static int[] cells(MinedLedger x, int e, int from, int to) {
        int[] cells = new int[to - from];
        for (int i = from; i < to; i++) {
            cells[i - from] = x.cell(e, i);
        }
        return cells;
    }

    static int[] heads(MinedLedger x) {
        int[] words = new int[8];
        Arrays.setAll(words, x::head);
        return words;
    }

    /** Entry e gets the hash that its other cells have. */
    static void rehash(MinedLedger x, int e) {
        int[] hash = Reference.hash(cells(x, e, 0, 26));
        for (int i = 0; i < 8; i++) {
            x.spoil(e, 26 + i, hash[i]);
        }
    }

    /** The head becomes the newest entry's hash cells as they stand: the link of an entry that is dropped again. */
    void takeHeadFromCells(MinedLedger x) {
        append(x, x.count());
        x.drop();
    }
}
