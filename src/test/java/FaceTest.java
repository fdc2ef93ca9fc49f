import java.io.IOException;
import java.lang.reflect.Constructor;
import java.lang.reflect.Field;
import java.lang.reflect.Member;
import java.lang.reflect.Method;
import java.lang.reflect.Modifier;
import java.nio.file.Files;
import java.nio.file.Path;
import java.util.Arrays;
import java.util.Set;
import java.util.TreeSet;
import java.util.regex.Pattern;

/** The class has the document's face and nothing beside it, and keeps from the words that LANGUAGE.md bars. */
public final class FaceTest {
    private static final String[] FACE = {
        "put/1", "takeBack/1", "pending/1", "difficulty/1", "mine/1", "tried/0", "commit/0", "count/0", "head/1",
        "cell/2", "spoil/3", "drop/0", "may/1", "find/1", "stir/2", "begin/0", "audit/1", "fault/0", "way/2",
        "prove/1", "proof/1", "forge/2", "check/1",
    };
    private static final String[] BARRED = {
        "\\bthrows?\\b", "\\btry\\b", "\\bcatch\\b", "\\bsynchronized\\b", "\\bassert\\b", "\\bpackage\\b",
        "\\bThread\\b", "\\bRandom\\b", "\\bSystem\\.(?!arraycopy\\b)", "Exact\\b", "->", "::",
    };

    private final Checks checks = new Checks();

    public static void main(String[] args) throws IOException {
        FaceTest test = new FaceTest();
        test.constants();
        test.methods();
        test.others();
        test.barredWords();
        test.checks.end("FaceTest");
    }

    private void constants() {
        checks.due("NONE", MinedLedger.NONE, -1);
        checks.due("BAD", MinedLedger.BAD, -2);
        checks.due("REFUSED", MinedLedger.REFUSED, -3);
        checks.due("FULL", MinedLedger.FULL, -4);
        checks.due("CLEAN", MinedLedger.CLEAN, -5);
    }

    private void methods() {
        Set<String> due = new TreeSet<>(Arrays.asList(FACE));
        Set<String> names = new TreeSet<>();
        for (String each : FACE) {
            names.add(each.substring(0, each.indexOf('/')));
        }
        for (Method method : MinedLedger.class.getDeclaredMethods()) {
            if (Modifier.isPrivate(method.getModifiers())) {
                yes("a private method named " + method.getName(), !names.contains(method.getName()));
                continue;
            }
            String name = method.getName() + "/" + method.getParameterCount();
            yes("public " + name, Modifier.isPublic(method.getModifiers()) && due.remove(name));
            yes(name + " answers an int", method.getReturnType() == int.class);
            for (Class<?> type : method.getParameterTypes()) {
                yes(name + " takes ints", type == int.class);
            }
        }
        yes("missing methods: " + due, due.isEmpty());
    }

    private void others() {
        yes("public final", MinedLedger.class.getModifiers() == (Modifier.PUBLIC | Modifier.FINAL));
        Constructor<?>[] made = MinedLedger.class.getDeclaredConstructors();
        yes("one constructor", made.length == 1 && Modifier.isPublic(made[0].getModifiers()));
        yes("it takes an int", Arrays.equals(made[0].getParameterTypes(), new Class<?>[] {int.class}));
        int constants = 0;
        for (Field field : MinedLedger.class.getDeclaredFields()) {
            constants += isPrivate(field) ? 0 : 1;
            yes(field + " is final or no static one", !isStatic(field) || Modifier.isFinal(field.getModifiers()));
        }
        checks.due("public constants", constants, 5);
        for (Class<?> inside : MinedLedger.class.getDeclaredClasses()) {
            yes(inside + " is static", Modifier.isStatic(inside.getModifiers()));
            yes(inside + " is not public", !Modifier.isPublic(inside.getModifiers()));
        }
    }

    private void barredWords() throws IOException {
        String text = Files.readString(Path.of("src/main/java/MinedLedger.java"));
        String code = text.replaceAll("(?s)/\\*.*?\\*/", " ").replaceAll("//[^\n]*", " ");
        for (String barred : BARRED) {
            yes("without " + barred, !Pattern.compile(barred).matcher(code).find());
        }
    }

    private static boolean isPrivate(Member member) {
        return Modifier.isPrivate(member.getModifiers());
    }

    private static boolean isStatic(Member member) {
        return Modifier.isStatic(member.getModifiers());
    }

    private void yes(String what, boolean holds) {
        checks.due(what, holds ? 1 : 0, 1);
    }
}
