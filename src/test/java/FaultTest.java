import java.util.Random;

/**
 * The FAULT of a text (terms 2), looked at without a second reader: what stands before a fault must be the beginning of
 * some rule, and the byte at the fault must not go on with it. The class itself says what is a rule.
 */
public final class FaultTest {
    private static final int RUNS = 10000;
    private static final String SIGNS = "wdmyernlsbpxAJ!()|/&,012379";
    private static final String[] PIECES = {"w0", "d30", "m12", "y1", "e5,9", "r3,70", "n1m(", "l2w(", "s7(", "b70(", "p9(", "x0(", "(",
        "(", "A", "!", "|", "/", "&", ")", "n", "l1", "s", "b1", "p", "x", "w", "e", "e7,", "r5", "r7,"};
    /** What can end any beginning of a rule but for its open brackets. */
    private static final String[] ENDS = {"", "w0", "0", "1", ",719", "719", "1,1", "0,719", "1w(w0)", "w(w0)", "(w0)", "1(w0)"};

    private static final Checks CHECKS = new Checks();

    public static void main(String[] args) {
        allBehind("");
        allBehind("w0|");
        allBehind("((((");
        allBehind("(((((");
        allBehind("x0(!(n1y(s1(l2w(");
        allBehind("(((((w0)");
        Random random = new Random(1);
        for (int run = 0; run < RUNS && CHECKS.wrongs() == 0; run++) {
            look(randomText(random));
        }
        CHECKS.end("FaultTest");
    }

    /** Each text of up to two signs more. */
    private static void allBehind(String before) {
        look(before);
        for (int i = 0; i < SIGNS.length(); i++) {
            look(before + SIGNS.charAt(i));
            for (int j = 0; j < SIGNS.length(); j++) {
                look(before + SIGNS.charAt(i) + SIGNS.charAt(j));
            }
        }
    }

    /** A long beginning of a rule, now and then with what doesn't go on, so that the fault is often far behind. */
    private static String randomText(Random random) {
        String text = "";
        int tries = 1 + random.nextInt(40);
        for (int i = 0; i < tries && text.length() < 60; i++) {
            String more = random.nextInt(10) == 0 ? String.valueOf(SIGNS.charAt(random.nextInt(SIGNS.length())))
                : PIECES[random.nextInt(PIECES.length)];
            if (random.nextInt(30) == 0 || goesOn(text + more)) {
                text += more;
            }
        }
        return text;
    }

    private static void look(String text) {
        int answer = answer(text);
        if (answer >= 0) {
            return;
        }
        int place = -100 - answer;
        CHECKS.holds(text + ": the fault " + place + " is in the text or at its end", place >= 0 && place <= text.length());
        if (place < 0 || place > text.length()) {
            return;
        }
        CHECKS.holds(text + ": a rule goes on up to the fault " + place, goesOn(text.substring(0, place)));
        if (place < text.length() && !Character.isDigit(text.charAt(place))) {
            CHECKS.holds(text + ": no rule goes on at the fault " + place, !goesOn(text.substring(0, place + 1)));
        }
    }

    private static boolean goesOn(String beginning) {
        long open = beginning.chars().filter(sign -> sign == '(').count() - beginning.chars().filter(sign -> sign == ')').count();
        for (String end : ENDS) {
            if (open >= 0 && answer(beginning + end + ")".repeat((int) open)) >= 0) {
                return true;
            }
        }
        return false;
    }

    private static int answer(String text) {
        return Checks.rule(new RecurringDays(), 0, text);
    }
}
