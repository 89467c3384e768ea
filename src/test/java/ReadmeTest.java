import java.io.IOException;
import java.lang.reflect.Method;
import java.lang.reflect.Modifier;
import java.nio.file.DirectoryStream;
import java.nio.file.Files;
import java.nio.file.Path;
import java.util.regex.Matcher;
import java.util.regex.Pattern;

/** That README.md tells how to use the class and how to run its tests, and that what it shows is so. */
public final class ReadmeTest {
    private static final Sentences T = new Sentences();
    private static final Checks CHECKS = new Checks();
    private static final Pattern CALLS = Pattern.compile("(?s)```text\n(.*?)```");

    public static void main(String[] args) throws IOException {
        String readme = Files.readString(Path.of("README.md"));
        int blocks = 0;
        for (Matcher block = CALLS.matcher(readme); block.find(); ) {
            blocks++;
            T.test("README.md, calls " + blocks, block.group(1).replaceAll(" *#[^\n]*", ""));
        }
        CHECKS.due("README.md: blocks of calls", blocks, 2);
        for (Method method : RecurringDays.class.getDeclaredMethods()) {
            if (Modifier.isPublic(method.getModifiers())) {
                CHECKS.holds("README.md names " + method.getName(), readme.contains("`" + method.getName() + "("));
            }
        }
        CHECKS.holds("README.md tells how to run the tests", readme.contains(".ci/run"));
        try (DirectoryStream<Path> tests = Files.newDirectoryStream(Path.of("src/test/java"), "*Test.java")) {
            for (Path test : tests) {
                String name = test.getFileName().toString().replace(".java", "");
                CHECKS.holds("README.md names " + name, readme.contains("`" + name + "`"));
            }
        }
        example();
        CHECKS.holds("README.md: its calls answer as told", T.failures() == 0);
        CHECKS.end("ReadmeTest");
    }

    /** The example in Java. */
    private static void example() {
        RecurringDays days = new RecurringDays();
        for (char letter : "n2m(w3)/m8".toCharArray()) {
            days.feed(letter);
        }
        CHECKS.due("README.md, the example: rule(0)", days.rule(0), 22);
        CHECKS.due("README.md, the example: next(0, 100)", days.next(0, 100), 101);
        CHECKS.due("README.md, the example: count(0, 0, 359)", days.count(0, 0, 359), 11);
    }
}
