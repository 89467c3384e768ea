import java.lang.reflect.InvocationTargetException;
import java.lang.reflect.Method;
import java.util.ArrayList;
import java.util.Arrays;
import java.util.HashMap;
import java.util.HashSet;
import java.util.List;
import java.util.Map;
import java.util.Set;
import java.util.function.IntFunction;
import java.util.regex.Matcher;
import java.util.regex.Pattern;
import java.util.stream.Collectors;
import java.util.stream.IntStream;

/**
 * Tests of one sentence of the document each. A test's name begins with the Term or the promise; what it does is told as
 * runs, each on a new object. A line of a run is calls and, behind an arrow, what each of them must answer:
 *
 * <pre>
 *   rule(0, "w0") -> 103
 *   next(0, -1) next(0, 720) -> BAD
 * </pre>
 *
 * rule(0, "w0") feeds the text before; tape("w0") feeds it and answers what the last feed() did. Without an arrow any answer
 * will do. MIN and MAX are the ends of int. No run makes more calls than the document promises anything for.
 */
final class Sentences {
    private static final int MOST_CALLS = 512;
    private static final Pattern CALL = Pattern.compile("(\\w+)\\(((?:\"[^\"]*\"|[^\")])*)\\)");
    private static final Map<String, Integer> WORDS = new HashMap<>();
    private static final Map<String, Method> METHODS = new HashMap<>();

    static {
        Object[] words = {"NONE", -1, "BAD", -2, "STATE", -3, "FULL", -4, "NO_DAY", -5, "NOTHING", -11, "BEYOND", -13, "BELOW", -14,
            "NO_PLACE", -2000000000, "MIN", Integer.MIN_VALUE, "MAX", Integer.MAX_VALUE};
        for (int i = 0; i < words.length; i += 2) {
            WORDS.put((String) words[i], (Integer) words[i + 1]);
        }
        for (Method method : RecurringDays.class.getDeclaredMethods()) {
            METHODS.put(method.getName(), method);
        }
    }

    private final Set<String> names = new HashSet<>();
    private int passed;
    private int failed;

    /** One object and how often it has been called. */
    private static final class Run {
        final RecurringDays x = new RecurringDays();
        int calls;
    }

    /** Lines for each number. */
    static String each(int least, int most, IntFunction<String> lines) {
        return IntStream.rangeClosed(least, most).mapToObj(lines).collect(Collectors.joining("\n", "", "\n"));
    }

    /** Lines for each NAME, which stands in them as NAME. */
    static String eachName(String lines) {
        return each(0, 9, name -> lines.replace("NAME", String.valueOf(name)));
    }

    void test(String sentence, String... runs) {
        List<String> wrongs = new ArrayList<>();
        int dues = 0;
        for (String told : runs) {
            Run run = new Run();
            for (String line : told.split("\n")) {
                dues += look(run, line, wrongs);
            }
        }
        if (dues == 0) {
            wrongs.add("nothing is looked at");
        }
        report(sentence, wrongs);
    }

    /** That a call more (a line each, with its answer) leaves every answer of the probe as it is without that call. */
    void changesNothing(String sentence, String before, String calls, String probe) {
        List<String> wrongs = new ArrayList<>();
        List<Integer> due = answers(new Run(), before, probe);
        for (String line : calls.strip().split("\n")) {
            Run run = new Run();
            answers(run, before, "");
            look(run, line, wrongs);
            List<Integer> got = answers(run, "", probe);
            if (!got.equals(due)) {
                wrongs.add(line.strip() + ": behind it " + got + ", due is " + due);
            }
        }
        report(sentence, wrongs);
    }

    int failures() {
        return failed;
    }

    /** Each number must have had a test under its heading ("Promise", "Term"). */
    void end(String suite, String heading, int most) {
        for (int number = 1; number <= most; number++) {
            String wanted = heading + " " + number + ",";
            if (names.stream().noneMatch(name -> name.startsWith(wanted))) {
                failed++;
                System.out.println("NO TEST: " + wanted);
            }
        }
        System.out.println(suite + ": " + passed + " sentences hold, " + failed + " do not");
        System.exit(failed == 0 && passed > 0 ? 0 : 1);
    }

    private void report(String sentence, List<String> wrongs) {
        if (!names.add(sentence)) {
            wrongs.add("there is another test of this name");
        }
        if (wrongs.isEmpty()) {
            passed++;
            System.out.println("holds: " + sentence);
            return;
        }
        failed++;
        System.out.println("DOES NOT HOLD: " + sentence);
        for (String wrong : wrongs.subList(0, Math.min(10, wrongs.size()))) {
            System.out.println("    " + wrong);
        }
    }

    /** What the calls of the second part answer, behind those of the first. */
    private static List<Integer> answers(Run run, String before, String asked) {
        for (Matcher call = CALL.matcher(before); call.find(); ) {
            call(run, call.group(1), call.group(2));
        }
        List<Integer> answers = new ArrayList<>();
        for (Matcher call = CALL.matcher(asked); call.find(); ) {
            answers.add(call(run, call.group(1), call.group(2)));
        }
        return answers;
    }

    /** Does a line's calls; answers how many of them had something due. */
    private static int look(Run run, String line, List<String> wrongs) {
        int arrow = line.lastIndexOf("->");
        String calls = arrow < 0 ? line : line.substring(0, arrow);
        int made = 0;
        for (Matcher call = CALL.matcher(calls); call.find(); ) {
            int got = call(run, call.group(1), call.group(2));
            made++;
            if (arrow >= 0 && got != number(line.substring(arrow + 2))) {
                wrongs.add(call.group() + " answered " + got + ", due is" + line.substring(arrow + 2));
            }
        }
        if (!CALL.matcher(calls).replaceAll("").isBlank() || arrow >= 0 && made == 0) {
            throw new IllegalStateException("this line of a test is none: " + line);
        }
        return arrow >= 0 ? made : 0;
    }

    private static int number(String told) {
        String word = told.strip();
        return WORDS.containsKey(word) ? WORDS.get(word) : Integer.parseInt(word);
    }

    private static int call(Run run, String name, String told) {
        int quote = told.indexOf('"');
        String numbers = told;
        if (quote >= 0) {
            int fed = feed(run, told.substring(quote + 1, told.lastIndexOf('"')));
            if (name.equals("tape")) {
                return fed;
            }
            numbers = told.substring(0, told.lastIndexOf(',', quote));
        }
        Object[] arguments = numbers.isBlank() ? new Object[0]
            : Arrays.stream(numbers.split(",")).map(Sentences::number).toArray();
        return invoke(run, name, arguments);
    }

    private static int feed(Run run, String text) {
        int answer = 0;
        for (int i = 0; i < text.length(); i++) {
            answer = invoke(run, "feed", (int) text.charAt(i));
        }
        return answer;
    }

    private static int invoke(Run run, String name, Object... arguments) {
        run.calls++;
        if (run.calls > MOST_CALLS) {
            throw new IllegalStateException("a run makes more calls than anything is promised for");
        }
        try {
            return (int) METHODS.get(name).invoke(run.x, arguments);
        } catch (IllegalAccessException | InvocationTargetException thrown) {
            throw new IllegalStateException(name + Arrays.toString(arguments) + " has thrown", thrown);
        }
    }
}
