import java.io.IOException;
import java.lang.reflect.Constructor;
import java.lang.reflect.Field;
import java.lang.reflect.Member;
import java.lang.reflect.Method;
import java.lang.reflect.Modifier;
import java.nio.file.Files;
import java.nio.file.Path;
import java.util.ArrayList;
import java.util.Arrays;
import java.util.List;
import java.util.Set;
import java.util.TreeSet;
import java.util.regex.Matcher;
import java.util.regex.Pattern;

/** The class has the document's face and nothing beside it, and keeps to what of LANGUAGE.md a test can see. */
public final class FaceTest {
    private static final String[] FACE = {
        "put/1", "takeBack/1", "pending/1", "difficulty/1", "mine/1", "tried/0", "commit/0", "count/0", "head/1",
        "cell/2", "spoil/3", "drop/0", "may/1", "find/1", "stir/2", "begin/0", "audit/1", "fault/0", "way/2",
        "prove/1", "proof/1", "forge/2", "check/1",
    };
    private static final String[] BARRED = {
        "\\bthrows?\\b", "\\btry\\b", "\\bcatch\\b", "\\bsynchronized\\b", "\\bassert\\b", "\\bpackage\\b",
        "\\bThread\\b", "\\bRandom\\b", "\\bObject\\b", "\\bstatic\\s*\\{", "->", "::",
    };
    /** Of what LANGUAGE.md lists, all that the class needs. */
    private static final Set<String> LIBRARY = Set.of(
        "java.util.Arrays", "Arrays.fill", "Integer.numberOfLeadingZeros", "Math.max", "Math.min", "System.arraycopy");
    /** What of the class's own has parts that are named behind a point. */
    private static final Set<String> OWN = Set.of("hasher", "filter", "Filter");

    private final Checks checks = new Checks();

    public static void main(String[] args) throws IOException {
        FaceTest test = new FaceTest();
        test.constants();
        test.methods();
        test.others();
        test.sizes();
        String code = code();
        test.barredWords(code);
        test.library(code);
        test.checks.end("FaceTest");
    }

    private void constants() {
        checks.due("NONE", MinedLedger.NONE, -1);
        checks.due("BAD", MinedLedger.BAD, -2);
        checks.due("REFUSED", MinedLedger.REFUSED, -3);
        checks.due("FULL", MinedLedger.FULL, -4);
        checks.due("CLEAN", MinedLedger.CLEAN, -5);
    }

    private void methods() {
        Set<String> due = new TreeSet<>(Arrays.asList(FACE));
        Set<String> names = new TreeSet<>();
        for (String each : FACE) {
            names.add(each.substring(0, each.indexOf('/')));
        }
        for (Method method : MinedLedger.class.getDeclaredMethods()) {
            if (Modifier.isPrivate(method.getModifiers())) {
                yes("a private method named " + method.getName(), !names.contains(method.getName()));
                continue;
            }
            String name = method.getName() + "/" + method.getParameterCount();
            yes("public " + name, Modifier.isPublic(method.getModifiers()) && due.remove(name));
            yes(name + " answers an int", method.getReturnType() == int.class);
            for (Class<?> type : method.getParameterTypes()) {
                yes(name + " takes ints", type == int.class);
            }
        }
        yes("missing methods: " + due, due.isEmpty());
    }

    private void others() {
        yes("public final", MinedLedger.class.getModifiers() == (Modifier.PUBLIC | Modifier.FINAL));
        Constructor<?>[] made = MinedLedger.class.getDeclaredConstructors();
        yes("one constructor", made.length == 1 && Modifier.isPublic(made[0].getModifiers()));
        yes("it takes an int", Arrays.equals(made[0].getParameterTypes(), new Class<?>[] {int.class}));
        int constants = 0;
        for (Field field : MinedLedger.class.getDeclaredFields()) {
            constants += isPrivate(field) ? 0 : 1;
        }
        checks.due("public constants", constants, 5);
        for (Class<?> inside : MinedLedger.class.getDeclaredClasses()) {
            yes(inside + " is static", Modifier.isStatic(inside.getModifiers()));
            yes(inside + " is not public", !Modifier.isPublic(inside.getModifiers()));
        }
    }

    /** LANGUAGE.md's rules 3, 5 and 11, for the class and for those inside it. */
    private void sizes() {
        List<Class<?>> classes = new ArrayList<>(List.of(MinedLedger.class));
        classes.addAll(List.of(MinedLedger.class.getDeclaredClasses()));
        yes("at most twelve classes", classes.size() <= 12);
        for (Class<?> each : classes) {
            int fields = 0;
            for (Field field : each.getDeclaredFields()) {
                fields += isStatic(field) ? 0 : 1;
                yes(field + " is final or no static one", !isStatic(field) || Modifier.isFinal(field.getModifiers()));
                yes(field + " is private or a constant", isPrivate(field) || isStatic(field));
                yes(field + " is of a type that is free", hasFreeType(field, classes));
            }
            yes(each + " has at most twenty fields", fields <= 20);
            for (Method method : each.getDeclaredMethods()) {
                yes(method + " has at most seven parameters", method.getParameterCount() <= 7);
            }
        }
    }

    private static boolean hasFreeType(Field field, List<Class<?>> own) {
        Class<?> type = field.getType();
        return type == int.class || type == int[].class || !isStatic(field) && own.contains(type);
    }

    /** The class's text without comments. */
    private static String code() throws IOException {
        String text = Files.readString(Path.of("src/main/java/MinedLedger.java"));
        return text.replaceAll("(?s)/\\*.*?\\*/", " ").replaceAll("//[^\n]*", " ");
    }

    private void barredWords(String code) {
        for (String barred : BARRED) {
            yes("without " + barred, !Pattern.compile(barred).matcher(code).find());
        }
    }

    private void library(String code) {
        Matcher named = Pattern.compile("\\b(\\w+)(\\.\\w+)+").matcher(code);
        while (named.find()) {
            boolean known = OWN.contains(named.group(1)) || LIBRARY.contains(named.group());
            yes("no library but what is listed: " + named.group(), known);
        }
    }

    private static boolean isPrivate(Member member) {
        return Modifier.isPrivate(member.getModifiers());
    }

    private static boolean isStatic(Member member) {
        return Modifier.isStatic(member.getModifiers());
    }

    private void yes(String what, boolean holds) {
        checks.due(what, holds ? 1 : 0, 1);
    }
}
