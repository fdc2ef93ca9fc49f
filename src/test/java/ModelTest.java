import java.util.Arrays;
import java.util.Random;

/** Runs of calls, chosen by fixed seeds, in which the program must answer as the model does. */
public final class ModelTest {
    private static final int CALLS = 512;
    private static final int LONGEST_STEP = 24;
    private static final int[] EDGES = {
        Integer.MIN_VALUE, -26, -2, -1, 0, 1, 7, 8, 9, 20, 21, 25, 26, 33, 34, 59, 60, 61, 100, 101,
        1559, 1560, 3000, 3001, Integer.MAX_VALUE,
    };

    private final Checks checks = new Checks();
    private final Random random;
    private final int seed;
    private final MinedLedger ledger;
    private final Model model;
    private int calls = 0;

    private ModelTest(int seed) {
        this.seed = seed;
        random = new Random(seed);
        int difficulty = random.nextInt(9) - 2;
        ledger = new MinedLedger(difficulty);
        model = new Model(difficulty);
    }

    public static void main(String[] args) {
        Checks all = new Checks();
        for (int seed = 1; seed <= 400; seed++) {
            ModelTest test = new ModelTest(seed);
            test.run();
            all.due("seed " + seed + ": wrong answers", test.checks.wrong(), 0);
        }
        all.end("ModelTest");
    }

    private void run() {
        // Runs differ in how often they do harm, so that some grow long and clean ledgers.
        int harm = seed % 4;
        while (calls + LONGEST_STEP <= CALLS && checks.wrong() == 0) {
            int kind = random.nextInt(100);
            if (kind < 40) {
                append();
            } else if (kind < 40 + 4 * harm) {
                doHarm();
            } else {
                ask();
            }
        }
    }

    private void due(String call, int got, int want) {
        calls++;
        checks.due("seed " + seed + ", call " + calls + ": " + call, got, want);
    }

    private int odd() {
        return random.nextInt(3) == 0 ? EDGES[random.nextInt(EDGES.length)] : random.nextInt();
    }

    /** Mostly 0 .. most, now and then any number. */
    private int upTo(int most) {
        return random.nextInt(12) == 0 ? odd() : random.nextInt(most + 1);
    }

    /** Words come from few, so that they meet again. */
    private int word() {
        return random.nextInt(5) == 0 ? odd() : random.nextInt(40) - 2;
    }

    private int entry() {
        return upTo(Math.max(0, model.count() - (random.nextInt(8) == 0 ? 0 : 1)));
    }

    private void append() {
        int words = random.nextInt(3);
        for (int i = 0; i < words; i++) {
            put();
        }
        if (random.nextInt(10) == 0) {
            change();
        }
        mine(random.nextInt(6) == 0 ? upTo(3001) : 1 + random.nextInt(200));
        if (random.nextInt(10) == 0) {
            change();
        }
        due("commit()", ledger.commit(), model.commit());
    }

    private void put() {
        int w = word();
        due("put(" + w + ")", ledger.put(w), model.put(w));
    }

    private void mine(int n) {
        due("mine(" + n + ")", ledger.mine(n), model.mine(n));
        due("tried()", ledger.tried(), model.tried());
    }

    /** What may be done between mining and appending. */
    private void change() {
        switch (random.nextInt(5)) {
            case 0 -> put();
            case 1 -> {
                int n = upTo(3);
                due("takeBack(" + n + ")", ledger.takeBack(n), model.takeBack(n));
            }
            case 2 -> {
                int d = random.nextInt(4) == 0 ? upTo(21) : random.nextInt(6);
                due("difficulty(" + d + ")", ledger.difficulty(d), model.difficulty(d));
            }
            case 3 -> {
                int e = entry();
                int i = upTo(34);
                int same = model.cell(e, i);
                spoil(e, i, same);
            }
            default -> due("commit()", ledger.commit(), model.commit());
        }
        due("tried()", ledger.tried(), model.tried());
    }

    private void spoil(int e, int i, int w) {
        due("spoil(" + e + ", " + i + ", " + w + ")", ledger.spoil(e, i, w), model.spoil(e, i, w));
    }

    private void doHarm() {
        switch (random.nextInt(5)) {
            case 0 -> spoil(entry(), upTo(34), odd());
            case 1 -> spoil(entry(), 16 + random.nextInt(8), word());
            case 2 -> {
                int drops = 1 + random.nextInt(4);
                for (int k = 0; k < drops; k++) {
                    due("drop()", ledger.drop(), model.drop());
                }
            }
            case 3 -> {
                // A spoiled mark under a hash that is right again leads to faults 4 and 5.
                int e = entry();
                spoil(e, 24, random.nextInt(3) == 0 ? odd() : random.nextInt(200));
                rehash(e);
            }
            default -> repair();
        }
    }

    private void rehash(int e) {
        if (e < 0 || e >= model.count()) {
            return;
        }
        int[] hash = Reference.hash(Arrays.copyOf(model.entries.get(e), 26));
        for (int i = 0; i < 8; i++) {
            spoil(e, 26 + i, hash[i]);
        }
    }

    /** Links and skips become what they should be, as far as the newest entry goes. */
    private void repair() {
        int e = model.count() - 1;
        for (int i = 0; e > 0 && i < 8; i++) {
            spoil(e, i, model.cell(e - 1, 26 + i));
            spoil(e, 8 + i, model.cell(e - Integer.lowestOneBit(e), 26 + i));
        }
        rehash(e);
    }

    private void ask() {
        switch (random.nextInt(14)) {
            case 0 -> {
                int i = upTo(8);
                due("pending(" + i + ")", ledger.pending(i), model.pending(i));
                due("head(" + i + ")", ledger.head(i), model.head(i));
            }
            case 1 -> {
                int e = entry();
                int i = upTo(34);
                due("cell(" + e + ", " + i + ")", ledger.cell(e, i), model.cell(e, i));
                due("count()", ledger.count(), model.count());
            }
            case 2, 3 -> {
                int w = word();
                due("may(" + w + ")", ledger.may(w), model.may(w));
                due("find(" + w + ")", ledger.find(w), model.find(w));
            }
            case 4 -> {
                int w = odd();
                int s = odd();
                due("stir(" + w + ", " + s + ")", ledger.stir(w, s), model.stir(w, s));
            }
            case 5 -> due("begin()", ledger.begin(), model.begin());
            case 6, 7, 8 -> {
                int n = random.nextInt(3) == 0 ? upTo(101) : 1 + random.nextInt(20);
                due("audit(" + n + ")", ledger.audit(n), model.audit(n));
                due("fault()", ledger.fault(), model.fault());
            }
            case 9 -> {
                int e = entry();
                int level = upTo(12);
                due("way(" + e + ", " + level + ")", ledger.way(e, level), model.way(e, level));
            }
            case 10, 11 -> {
                int e = entry();
                due("prove(" + e + ")", ledger.prove(e), model.prove(e));
                int other = random.nextBoolean() ? e : entry();
                due("check(" + other + ")", ledger.check(other), model.check(other));
            }
            case 12 -> {
                int i = upTo(300);
                due("proof(" + i + ")", ledger.proof(i), model.proof(i));
            }
            default -> {
                int i = upTo(300);
                int w = odd();
                due("forge(" + i + ", " + w + ")", ledger.forge(i, w), model.forge(i, w));
                int e = entry();
                due("check(" + e + ")", ledger.check(e), model.check(e));
            }
        }
    }
}
