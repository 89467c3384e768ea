import java.io.IOException;
import java.lang.reflect.Constructor;
import java.lang.reflect.Field;
import java.lang.reflect.Method;
import java.lang.reflect.Modifier;
import java.nio.file.Files;
import java.nio.file.Path;
import java.util.Set;
import java.util.TreeSet;
import java.util.regex.Matcher;
import java.util.regex.Pattern;

/** The document's public face, and what of LANGUAGE.md can be seen without reading the program as a person does. */
public final class FaceTest {
    private static final Checks CHECKS = new Checks();
    private static final String METHODS = "feed:1 clear:0 rule:1 drop:1 copy:2 out:2 extra:2 has:2 next:2 ahead:2 at:2 count:3 gap:1 "
        + "period:1 clash:3 unlike:2 merged:2 whose:2 busiest:3 free:3 parts:3 nth:4 told:1 remembered:2 list:2 put:3 get:2 move:5 "
        + "lay:4 judge:4 image:0 undo:0";
    private static final String NO_WORDS = "throw|throws|try|catch|finally|synchronized|assert|import|package|protected|volatile|"
        + "transient|native|strictfp|Object|Exception|Thread|System\\s*\\.\\s*(?!arraycopy)\\w+|\\w+Exact|equals|hashCode|toString|->|::|@";

    public static void main(String[] args) throws IOException {
        Class<?> face = RecurringDays.class;
        CHECKS.holds("public and final", Modifier.isPublic(face.getModifiers()) && Modifier.isFinal(face.getModifiers()));
        methods(face);
        constants(face);
        CHECKS.due("constructors", face.getDeclaredConstructors().length, 1);
        for (Constructor<?> made : face.getDeclaredConstructors()) {
            CHECKS.holds("the constructor is public, of nothing",
                Modifier.isPublic(made.getModifiers()) && made.getParameterCount() == 0);
        }
        inside(face);
        source(Files.readString(Path.of("src/main/java/RecurringDays.java")));
        CHECKS.end("FaceTest");
    }

    private static void methods(Class<?> face) {
        Set<String> open = new TreeSet<>();
        for (Method method : face.getDeclaredMethods()) {
            if (Modifier.isPrivate(method.getModifiers())) {
                continue;
            }
            open.add(method.getName() + ":" + method.getParameterCount());
            CHECKS.holds(method + " is public, of an object, answers int", Modifier.isPublic(method.getModifiers())
                && !Modifier.isStatic(method.getModifiers()) && method.getReturnType() == int.class);
            for (Class<?> type : method.getParameterTypes()) {
                CHECKS.holds(method + " takes ints", type == int.class);
            }
        }
        CHECKS.holds("the methods are those of the document: " + open, open.equals(new TreeSet<>(Set.of(METHODS.split(" ")))));
    }

    private static void constants(Class<?> face) {
        Set<String> open = new TreeSet<>();
        for (Field field : face.getDeclaredFields()) {
            boolean constant = Modifier.isStatic(field.getModifiers());
            CHECKS.holds(field + ": what is static is final", !constant || Modifier.isFinal(field.getModifiers()));
            if (!Modifier.isPrivate(field.getModifiers())) {
                open.add(field.getName());
                CHECKS.holds(field + " is a public constant of int",
                    constant && Modifier.isPublic(field.getModifiers()) && field.getType() == int.class);
            }
        }
        CHECKS.holds("the constants are those of the document: " + open, open.equals(Set.of("NONE", "BAD", "STATE", "FULL")));
    }

    private static void inside(Class<?> face) {
        Set<String> taken = new TreeSet<>();
        for (Method method : face.getMethods()) {
            taken.add(method.getName());
        }
        CHECKS.holds("at most twelve classes", face.getDeclaredClasses().length < 12);
        for (Class<?> nested : face.getDeclaredClasses()) {
            CHECKS.holds(nested + " is private and static",
                Modifier.isPrivate(nested.getModifiers()) && Modifier.isStatic(nested.getModifiers()));
            for (Method method : nested.getDeclaredMethods()) {
                CHECKS.holds(method + " bears no public one's name", !taken.contains(method.getName()));
                CHECKS.holds(method + " takes at most seven", method.getParameterCount() <= 7);
            }
            for (Field field : nested.getDeclaredFields()) {
                CHECKS.holds(field + ": what is static is final",
                    !Modifier.isStatic(field.getModifiers()) || Modifier.isFinal(field.getModifiers()));
            }
        }
    }

    private static void source(String text) {
        String code = text.replaceAll("(?s)/\\*.*?\\*/", " ").replaceAll("//[^\n]*", " ").replaceAll("'[^']+'", "' '");
        Matcher found = Pattern.compile("(?<![\\w])(" + NO_WORDS + ")(?![\\w])|->|::|@").matcher(code);
        while (found.find()) {
            CHECKS.holds("LANGUAGE.md has no " + found.group(), false);
        }
        CHECKS.holds("signs are 1 to 127", text.chars().allMatch(sign -> sign >= 1 && sign <= 127));
    }
}
