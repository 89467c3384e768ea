import java.io.IOException;
import java.lang.reflect.Constructor;
import java.lang.reflect.Field;
import java.lang.reflect.Method;
import java.lang.reflect.Modifier;
import java.nio.file.Files;
import java.nio.file.Path;
import java.util.ArrayList;
import java.util.List;
import java.util.Set;
import java.util.TreeSet;
import java.util.regex.Matcher;
import java.util.regex.Pattern;

/** The document's public face, and what of LANGUAGE.md (told by its rules' numbers) a program can see. */
public final class FaceTest {
    private static final Checks CHECKS = new Checks();
    private static final String METHODS = "feed:1 clear:0 rule:1 drop:1 copy:2 out:2 extra:2 has:2 next:2 ahead:2 at:2 count:3 gap:1 "
        + "period:1 clash:3 unlike:2 merged:2 whose:2 busiest:3 free:3 parts:3 nth:4 told:1 remembered:2 list:2 put:3 get:2 move:5 "
        + "lay:4 judge:4 image:0 undo:0";
    private static final String LIBRARY = "String|StringBuilder|Integer|Long|Math|ArrayList|List|Iterator|Iterable|Comparable|Arrays";
    private static final Pattern METHOD = Pattern.compile(
        "( {4}| {8})(?=\\w)(?!.*\\b(class|enum|interface|record|return|if|for|while|switch)\\b).*\\) \\{");
    private static final String TYPES = "int|long|short|byte|char|boolean|double|float|" + LIBRARY;
    /** What "some twelve", "some twenty", "some sixty" leave room for. */
    private static final int CLASSES = 14, FIELDS = 24, LINES = 70;

    public static void main(String[] args) throws IOException {
        String text = Files.readString(Path.of("src/main/java/RecurringDays.java"));
        String code = text.replaceAll("(?s)/\\*.*?\\*/", " ").replaceAll("//[^\n]*", " ").replaceAll("'[^']+'", "' '")
            .replaceAll("\"(?:[^\"\\\\]|\\\\.)*\"", "\" \"");
        face();
        List<Class<?>> classes = new ArrayList<>();
        classes.add(RecurringDays.class);
        classes.addAll(List.of(RecurringDays.class.getDeclaredClasses()));
        for (Class<?> one : classes) {
            members(one);
        }
        CHECKS.holds("LANGUAGE 11: some twelve classes", classes.size() <= CLASSES);
        words(text, code);
        methodLines(code);
        CHECKS.end("FaceTest");
    }

    private static void face() {
        Class<?> face = RecurringDays.class;
        CHECKS.holds("LANGUAGE 1: public and final", Modifier.isPublic(face.getModifiers()) && Modifier.isFinal(face.getModifiers()));
        Set<String> open = new TreeSet<>();
        for (Method method : face.getDeclaredMethods()) {
            if (!Modifier.isPrivate(method.getModifiers()) && !method.isSynthetic()) {
                open.add(method.getName() + ":" + method.getParameterCount());
                CHECKS.holds("LANGUAGE 1: " + method + " is public, of an object, answers int", Modifier.isPublic(method.getModifiers())
                    && !Modifier.isStatic(method.getModifiers()) && method.getReturnType() == int.class);
                for (Class<?> type : method.getParameterTypes()) {
                    CHECKS.holds("LANGUAGE 1: " + method + " takes ints", type == int.class);
                }
            }
        }
        CHECKS.holds("LANGUAGE 1: the methods are those of the document: "
            + open, open.equals(new TreeSet<>(Set.of(METHODS.split(" ")))));
        constants(face);
        CHECKS.due("LANGUAGE 1: constructors", face.getDeclaredConstructors().length, 1);
        for (Constructor<?> made : face.getDeclaredConstructors()) {
            CHECKS.holds("LANGUAGE 1: the constructor is public, of nothing",
                Modifier.isPublic(made.getModifiers()) && made.getParameterCount() == 0);
        }
    }

    private static void constants(Class<?> face) {
        Set<String> open = new TreeSet<>();
        for (Field field : face.getDeclaredFields()) {
            if (!Modifier.isPrivate(field.getModifiers())) {
                open.add(field.getName());
                CHECKS.holds("LANGUAGE 1: " + field + " is a public constant of int", Modifier.isPublic(field.getModifiers())
                    && Modifier.isStatic(field.getModifiers()) && field.getType() == int.class);
            }
        }
        CHECKS.holds("LANGUAGE 1: the constants are those of the document: "
            + open, open.equals(Set.of("NONE", "BAD", "STATE", "FULL")));
    }

    private static void members(Class<?> one) {
        int fields = 0;
        for (Field field : one.getDeclaredFields()) {
            boolean isStatic = Modifier.isStatic(field.getModifiers());
            CHECKS.holds("LANGUAGE 5: what is static is final: " + field, !isStatic || Modifier.isFinal(field.getModifiers()));
            String type = field.getType().getSimpleName().replace("[]", "");
            CHECKS.holds("LANGUAGE 3: two dimensions at most: " + field, !field.getType().getSimpleName().contains("[][][]"));
            CHECKS.holds("LANGUAGE 3: its type: "
            + field, type.matches(TYPES) || Set.of(RecurringDays.class.getDeclaredClasses()).stream()
                .anyMatch(own -> own.getSimpleName().equals(type)));
            fields += isStatic ? 0 : 1;
        }
        CHECKS.holds("LANGUAGE 11: some twenty fields: " + one, fields <= FIELDS);
        for (Method method : one.getDeclaredMethods()) {
            CHECKS.holds("LANGUAGE 11: at most seven parameters: " + method, method.getParameterCount() <= 7);
            CHECKS.holds("LANGUAGE 1: no private method bears a public one's name: " + method,
                !Modifier.isPrivate(method.getModifiers()) || !(" " + METHODS).contains(" " + method.getName() + ":"));
        }
        if (one != RecurringDays.class) {
            CHECKS.holds("LANGUAGE 1: private or package-visible, and static: " + one, Modifier.isStatic(one.getModifiers())
                && !Modifier.isPublic(one.getModifiers()) && !Modifier.isProtected(one.getModifiers()));
        }
    }

    private static void none(String rule, String pattern, String code) {
        Matcher found = Pattern.compile(pattern).matcher(code);
        while (found.find()) {
            CHECKS.holds(rule + ": " + found.group().strip() + " stands there", false);
        }
        CHECKS.holds(rule, true);
    }

    private static void words(String text, String code) {
        none("LANGUAGE, no package line", "\\bpackage\\b", code);
        none("LANGUAGE 2: no method reference", "::", code);
        none("LANGUAGE 2: no lambda", "->(?<!\\b(case|default)\\b[^;\n]{0,80}->)", code);
        none("LANGUAGE 2: no anonymous class", "new\\s+\\w+(<\\w*>)?\\([^()]*\\)\\s*\\{", code);
        none("LANGUAGE 4: no other library", "\\bimport\\s+(?!java\\.util\\.(ArrayList|List|Iterator|Arrays)\\s*;).*", code);
        none("LANGUAGE 4: no other library", "\\b(?:java|javax)\\.(?!util\\.(ArrayList|List|Iterator|Arrays)\\b)\\w+.*", code);
        none("LANGUAGE 4: System.arraycopy alone", "\\bSystem\\b(?!\\s*\\.\\s*arraycopy\\b)", code);
        none("LANGUAGE 4: none whose name ends in Exact", "\\b\\w+Exact\\b", code);
        none("LANGUAGE 4: other classes of the library", "\\b(Object|Objects|Character|Boolean|Byte|Short|Double|Float|Number|"
            + "StringBuffer|Random|Thread|Runtime|Process|Class|Map|HashMap|Set|HashSet|Collections|Optional|Stream|IntStream|"
            + "\\w*Exception|\\w*Error)\\b", code);
        none("LANGUAGE 4 and 13: of Math what is over int and long", "\\bMath\\s*\\.\\s*(?!(max|min|abs|floorDiv|floorMod)\\b)\\w+", code);
        none("LANGUAGE 5: no static initialiser", "\\bstatic\\s*\\{", code);
        none("LANGUAGE 6", "\\b(throw|throws|try|catch|finally|synchronized|assert)\\b", code);
        none("LANGUAGE 6", "\\b(hashCode|getClass|wait|notify|notifyAll)\\s*\\(", code);
        none("LANGUAGE 9: a loop whose end is not in its own lines", "for\\s*\\(\\s*;\\s*;|while\\s*\\(\\s*true", code);
        CHECKS.holds("LANGUAGE 4: signs are 1 to 127", text.chars().allMatch(sign -> sign >= 1 && sign <= 127));
    }

    /** A method begins four signs deep, or eight in a class inside, and ends with a brace as deep. */
    private static void methodLines(String code) {
        String[] lines = code.split("\n");
        for (int first = 0; first < lines.length; first++) {
            Matcher head = METHOD.matcher(lines[first]);
            if (head.matches()) {
                int last = first;
                while (last < lines.length - 1 && !lines[last].equals(head.group(1) + "}")) {
                    last++;
                }
                CHECKS.holds("LANGUAGE 11: some sixty lines: " + lines[first].strip(), last - first < LINES);
            }
        }
    }
}
