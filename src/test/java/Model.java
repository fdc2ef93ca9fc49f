import java.util.ArrayList;
import java.util.Arrays;
import java.util.BitSet;
import java.util.List;

/** The document once more, written with the Java library and without a thought for speed or room. */
final class Model {
    private static final int NONE = -1;
    private static final int BAD = -2;
    private static final int REFUSED = -3;
    private static final int FULL = -4;
    private static final int CLEAN = -5;

    final List<int[]> entries = new ArrayList<>();
    private final List<Integer> words = new ArrayList<>();
    private final BitSet filter = new BitSet();
    private int[] headNow = new int[8];
    private int[] proofNow = new int[0];
    private int asked;
    private int triedNow = 0;
    private Integer kept = null;
    private int placeNow = 0;
    private int faultNow = 0;

    Model(int difficulty) {
        asked = difficulty < 0 ? 0 : difficulty > 20 ? 20 : difficulty;
    }

    private void forget() {
        triedNow = 0;
        kept = null;
    }

    private boolean isEntry(int e) {
        return 0 <= e && e < entries.size();
    }

    /** What stands for the hash of entry e in others. */
    private int[] hashCells(int e) {
        return isEntry(e) ? Arrays.copyOfRange(entries.get(e), 26, 34) : new int[8];
    }

    private int[] skipCells(int e) {
        return e == 0 ? new int[8] : hashCells(e - Integer.lowestOneBit(e));
    }

    private int[] pendingCells(int nonce) {
        int[] cells = new int[26];
        System.arraycopy(hashCells(entries.size() - 1), 0, cells, 0, 8);
        System.arraycopy(skipCells(entries.size()), 0, cells, 8, 8);
        for (int i = 0; i < words.size(); i++) {
            cells[16 + i] = words.get(i);
        }
        cells[24] = asked * 16 + words.size();
        cells[25] = nonce;
        return cells;
    }

    int put(int word) {
        if (words.size() == 8) {
            return REFUSED;
        }
        words.add(word);
        forget();
        return words.size();
    }

    int takeBack(int n) {
        if (n < 1 || n > words.size()) {
            return BAD;
        }
        words.subList(words.size() - n, words.size()).clear();
        forget();
        return words.size();
    }

    int pending(int i) {
        return i >= 0 && i < words.size() ? words.get(i) : 0;
    }

    int difficulty(int d) {
        if (d < 0 || d > 20) {
            return BAD;
        }
        int was = asked;
        asked = d;
        forget();
        return was;
    }

    int mine(int n) {
        if (n < 1 || n > 3000) {
            return BAD;
        }
        if (kept != null) {
            return kept;
        }
        if (triedNow == 100000) {
            return REFUSED;
        }
        int end = Math.min(100000, triedNow + n);
        int found = Reference.nonce(pendingCells(0), triedNow, end, asked);
        if (found < 0) {
            triedNow = end;
            return NONE;
        }
        triedNow = found + 1;
        kept = found;
        return found;
    }

    int tried() {
        return triedNow;
    }

    int commit() {
        if (entries.size() == 60) {
            return FULL;
        }
        if (kept == null) {
            return REFUSED;
        }
        int[] cells = Arrays.copyOf(pendingCells(kept), 34);
        headNow = Reference.hash(Arrays.copyOf(cells, 26));
        System.arraycopy(headNow, 0, cells, 26, 8);
        entries.add(cells);
        setBits(cells);
        words.clear();
        forget();
        return entries.size() - 1;
    }

    private void setBits(int[] cells) {
        for (int i = 16; i < 24; i++) {
            for (int bit : Reference.filterBits(cells[i])) {
                filter.set(bit);
            }
        }
    }

    int count() {
        return entries.size();
    }

    int head(int i) {
        return i >= 0 && i < 8 ? headNow[i] : 0;
    }

    int cell(int e, int i) {
        return isEntry(e) && i >= 0 && i < 34 ? entries.get(e)[i] : 0;
    }

    int spoil(int e, int i, int w) {
        if (!isEntry(e) || i < 0 || i > 33) {
            return 0;
        }
        int was = entries.get(e)[i];
        entries.get(e)[i] = w;
        forget();
        return was;
    }

    int drop() {
        if (entries.isEmpty()) {
            return NONE;
        }
        int[] gone = entries.remove(entries.size() - 1);
        headNow = Arrays.copyOf(gone, 8);
        filter.clear();
        entries.forEach(this::setBits);
        placeNow = Math.min(placeNow, entries.size());
        forget();
        return entries.size();
    }

    int may(int word) {
        for (int bit : Reference.filterBits(word)) {
            if (!filter.get(bit)) {
                return 0;
            }
        }
        return 1;
    }

    int find(int word) {
        for (int e = 0; may(word) == 1 && e < entries.size(); e++) {
            for (int i = 16; i < 24; i++) {
                if (entries.get(e)[i] == word) {
                    return e;
                }
            }
        }
        return NONE;
    }

    int stir(int word, int seed) {
        return Reference.stir(word, seed);
    }

    int begin() {
        int was = placeNow;
        placeNow = 0;
        return was;
    }

    int audit(int n) {
        if (n < 1 || n > 100) {
            return BAD;
        }
        int looks = n;
        while (looks > 0 && placeNow < entries.size()) {
            faultNow = faultOf(placeNow);
            if (faultNow != 0) {
                return placeNow;
            }
            placeNow++;
            looks--;
        }
        faultNow = 0;
        if (looks == 0) {
            return NONE;
        }
        if (Arrays.equals(headNow, hashCells(entries.size() - 1))) {
            return CLEAN;
        }
        faultNow = entries.isEmpty() ? 6 : 5;
        return entries.isEmpty() ? 0 : entries.size() - 1;
    }

    private int faultOf(int e) {
        int[] cells = entries.get(e);
        if (!Arrays.equals(Arrays.copyOf(cells, 8), hashCells(e - 1))) {
            return 1;
        }
        if (!Arrays.equals(Arrays.copyOfRange(cells, 8, 16), skipCells(e))) {
            return 2;
        }
        if (!Arrays.equals(Reference.hash(Arrays.copyOf(cells, 26)), hashCells(e))) {
            return 3;
        }
        return Reference.zeros(hashCells(e)) < cells[24] >>> 4 ? 4 : 0;
    }

    int fault() {
        return faultNow;
    }

    private List<Integer> wayTo(int e) {
        List<Integer> way = new ArrayList<>();
        int x = entries.size() - 1;
        way.add(x);
        while (x != e) {
            int low = x - Integer.lowestOneBit(x);
            x = low >= e ? low : x - 1;
            way.add(x);
        }
        return way;
    }

    int way(int e, int level) {
        if (!isEntry(e)) {
            return BAD;
        }
        List<Integer> way = wayTo(e);
        return level >= 0 && level < way.size() ? way.get(level) : NONE;
    }

    int prove(int e) {
        if (!isEntry(e)) {
            return BAD;
        }
        List<Integer> way = wayTo(e);
        proofNow = new int[26 * way.size()];
        for (int k = 0; k < way.size(); k++) {
            System.arraycopy(entries.get(way.get(k)), 0, proofNow, 26 * k, 26);
        }
        return proofNow.length;
    }

    int proof(int i) {
        return i >= 0 && i < proofNow.length ? proofNow[i] : 0;
    }

    int forge(int i, int w) {
        if (i < 0 || i >= proofNow.length) {
            return 0;
        }
        int was = proofNow[i];
        proofNow[i] = w;
        return was;
    }

    int check(int e) {
        if (!isEntry(e)) {
            return BAD;
        }
        List<Integer> way = wayTo(e);
        if (proofNow.length != 26 * way.size()) {
            return 0;
        }
        int[] due = headNow;
        for (int k = 0; k < way.size(); k++) {
            int[] part = Arrays.copyOfRange(proofNow, 26 * k, 26 * k + 26);
            if (!Arrays.equals(Reference.hash(part), due)) {
                return 0;
            }
            if (k + 1 < way.size()) {
                int x = way.get(k);
                boolean bySkip = x - Integer.lowestOneBit(x) == way.get(k + 1);
                due = bySkip ? Arrays.copyOfRange(part, 8, 16) : Arrays.copyOf(part, 8);
            }
        }
        return 1;
    }
}
