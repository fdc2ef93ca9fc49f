import java.io.IOException;
import java.lang.reflect.Field;
import java.lang.reflect.Method;
import java.lang.reflect.Modifier;
import java.nio.file.Files;
import java.nio.file.Path;

/** The example in README.md answers what it says there, and README.md names the whole face. */
public final class ReadmeTest {
    private final Checks checks = new Checks();

    public static void main(String[] args) throws IOException {
        ReadmeTest test = new ReadmeTest();
        String readme = Files.readString(Path.of("README.md"));
        test.example();
        test.exampleIsThere(readme);
        test.faceIsThere(readme);
        test.checks.end("ReadmeTest");
    }

    private void example() {
        // example begins
        MinedLedger ledger = new MinedLedger(4);
        int words = ledger.put(7);
        int nonce = ledger.mine(3000);
        while (nonce == MinedLedger.NONE) {
            nonce = ledger.mine(3000);
        }
        int number = ledger.commit();

        int found = ledger.find(7);
        int place = ledger.begin();
        int audited = ledger.audit(100);
        int length = ledger.prove(0);
        int holds = ledger.check(0);

        int before = ledger.spoil(0, 16, 8);
        int again = ledger.begin();
        int faulty = ledger.audit(100);
        int fault = ledger.fault();
        // example ends
        checks.due("words", words, 1);
        checks.due("number", number, 0);
        checks.due("found", found, 0);
        checks.due("place", place, 0);
        checks.due("audited", audited, MinedLedger.CLEAN);
        checks.due("length", length, 26);
        checks.due("holds", holds, 1);
        checks.due("before", before, 7);
        checks.due("again", again, 1);
        checks.due("faulty", faulty, 0);
        checks.due("fault", fault, 3);
    }

    /** Otherwise the example could be changed in one place alone. */
    private void exampleIsThere(String readme) throws IOException {
        String test = Files.readString(Path.of("src/test/java/ReadmeTest.java"));
        String here = code(between(test, "// example begins\n", "// example ends\n"));
        String there = code(between(readme, "```java\n", "```\n"));
        yes("an example", !here.isEmpty());
        yes("README.md's example is the one that is tested:\n" + there, there.equals(here));
    }

    private void faceIsThere(String readme) {
        for (Method method : MinedLedger.class.getDeclaredMethods()) {
            if (Modifier.isPublic(method.getModifiers())) {
                yes("README.md has a row for " + method.getName(), readme.contains("\n| `" + method.getName() + "("));
            }
        }
        for (Field field : MinedLedger.class.getFields()) {
            yes("README.md names " + field.getName(), readme.contains("`" + field.getName() + "`"));
        }
    }

    private static String between(String text, String first, String last) {
        int from = text.indexOf(first);
        int to = text.indexOf(last, from + 1);
        return from < 0 || to < 0 ? "" : text.substring(from + first.length(), to);
    }

    /** The lines without comments, spaces at their ends and empty lines. */
    private static String code(String text) {
        StringBuilder code = new StringBuilder();
        text.lines().map(line -> line.replaceAll("//.*", "").strip()).filter(line -> !line.isEmpty())
            .forEach(line -> code.append(line).append('\n'));
        return code.toString();
    }

    private void yes(String what, boolean holds) {
        checks.due(what, holds ? 1 : 0, 1);
    }
}
