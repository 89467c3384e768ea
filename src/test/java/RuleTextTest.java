/** RULES as texts (promise 4 and terms 1 and 2): what each tells, and where a FAULT is. */
public final class RuleTextTest {
    private static final Checks CHECKS = new Checks();

    public static void main(String[] args) {
        singles();
        eachAndSpans();
        joins();
        names();
        ofBlocks();
        changed();
        numbers();
        faultsOfNumbers();
        faultsOfBytes();
        endsTooEarly();
        brackets();
        lettersWithinFive();
        wholeTape();
        CHECKS.end("RuleTextTest");
    }

    /** A text's days, told by how many there are, the first, the second and the last. */
    private static void tells(String text, int size, int first, int second, int last) {
        RecurringDays x = new RecurringDays();
        CHECKS.due(text, Checks.rule(x, 3, text), size);
        CHECKS.due(text + ": the first", x.at(3, 0), first);
        CHECKS.due(text + ": the second", x.at(3, 1), second);
        CHECKS.due(text + ": the last", x.at(3, -1), last);
    }

    private static void alike(String text, String other) {
        RecurringDays x = new RecurringDays();
        CHECKS.holds(text + " is a rule", Checks.rule(x, 0, text) > 0);
        CHECKS.holds(other + " is a rule", Checks.rule(x, 1, other) > 0);
        CHECKS.due(text + ": alike " + other, x.unlike(0, 1), -5);
    }

    private static void fault(String text, int place) {
        RecurringDays x = new RecurringDays();
        CHECKS.due(text, Checks.rule(x, 3, text), -100 - place);
        CHECKS.due(text + ": no rule", x.told(0), 0);
        CHECKS.due(text + ": the tape is empty", x.told(4), 0);
    }

    private static void singles() {
        tells("w0", 103, 0, 7, 714);
        tells("w6", 102, 6, 13, 713);
        tells("d1", 24, 0, 30, 690);
        tells("d30", 24, 29, 59, 719);
        tells("m1", 60, 0, 1, 389);
        tells("m12", 60, 330, 331, 719);
        tells("y0", 360, 0, 1, 359);
        tells("y1", 360, 360, 361, 719);
    }

    private static void eachAndSpans() {
        tells("e1,0", 720, 0, 1, 719);
        tells("e719,0", 2, 0, 719, 719);
        tells("e719,1", 1, 1, -5, 1);
        tells("e10,5", 72, 5, 15, 715);
        tells("e7,719", 1, 719, -5, 719);
        tells("e2,9", 356, 9, 11, 719);
        tells("r0,0", 1, 0, -5, 0);
        tells("r719,719", 1, 719, -5, 719);
        tells("r59,60", 2, 59, 60, 60);
        tells("r0,719", 720, 0, 1, 719);
    }

    private static void joins() {
        tells("r1,2|r2,3", 3, 1, 2, 3);
        tells("r1,5/r2,4", 2, 1, 5, 5);
        tells("r1,5&r4,9", 2, 4, 5, 5);
        tells("!r1,718", 2, 0, 719, 719);
        tells("!e1,0", 0, -5, -5, -5);
        tells("r0,3/r0,1|r0,0", 3, 0, 2, 3);
        tells("r0,3/(r0,1|r0,0)", 2, 2, 3, 3);
        tells("r0,3/r0,1/r2,2", 1, 3, -5, 3);
        tells("r0,3/(r0,1/r0,0)", 3, 0, 2, 3);
        tells("r0,1|r5,6&r6,7", 3, 0, 1, 6);
        tells("(r0,1|r5,6)&r6,7", 1, 6, -5, 6);
        tells("r0,9/r0,5&r3,9", 7, 0, 1, 9);
        tells("!r1,718&!r0,0", 1, 719, -5, 719);
        tells("!(!r4,5)", 2, 4, 5, 5);
        tells("r1,1&r2,2|r3,3", 1, 3, -5, 3);
        tells("!y1|r700,700", 361, 0, 1, 700);
        for (String text : new String[] {"r3,3", "e700,3", "n1y(r3,9)", "l1y(r1,3)", "s1(r2,2)", "b1(r4,4)", "p3(r1,3)", "x0(r2,3)"}) {
            tells("r0,9&" + text, 1, 3, -5, 3);
            tells("r3,3&(r0,9&" + text + ")", 1, 3, -5, 3);
        }
    }

    private static void names() {
        RecurringDays x = new RecurringDays();
        Checks.rule(x, 0, "r1,3");
        x.out(0, 2);
        x.extra(0, 9);
        CHECKS.due("A: its days as they are", Checks.rule(x, 9, "A"), 3);
        CHECKS.due("A: the last", x.at(9, -1), 9);
        x.drop(0);
        CHECKS.due("J: as the text was read", x.count(9, 0, 719), 3);
        CHECKS.due("A without a rule: its extra days", Checks.rule(x, 1, "A"), 1);
        CHECKS.due("J of itself", Checks.rule(x, 9, "J|r0,0"), 4);
        CHECKS.due("J of itself, again", Checks.rule(x, 9, "s1(J)"), 4);
        CHECKS.due("J: the first", x.at(9, 0), 1);
        CHECKS.due("a name without a rule", Checks.rule(x, 2, "!E"), 720);
        CHECKS.due("J after C", Checks.rule(x, 2, "C/J"), 716);
        fault("K", 0);
        fault("@", 0);
        fault("a", 0);
    }

    private static void ofBlocks() {
        tells("n1w(e1,0)", 103, 0, 7, 714);
        tells("n7w(e1,0)", 102, 6, 13, 713);
        tells("n6w(e1,0)", 103, 5, 12, 719);
        tells("n8w(e1,0)", 0, -5, -5, -5);
        tells("l1w(e1,0)", 103, 6, 13, 719);
        tells("l7w(e1,0)", 102, 0, 7, 707);
        tells("n1m(w3)", 24, 3, 31, 696);
        tells("l2m(w3)", 24, 17, 52, 710);
        tells("n5m(w0)", 7, 28, 119, 658);
        tells("n99y(e1,0)", 2, 98, 458, 458);
        tells("l99y(e1,0)", 2, 261, 621, 621);
        tells("l1y(r0,400)", 2, 359, 400, 400);
        tells("n2y(r5,5|r400,401)", 1, 401, -5, 401);
    }

    private static void changed() {
        tells("s1(r718,719|r0,0)", 2, 1, 719, 719);
        tells("s719(e1,0)", 1, 719, -5, 719);
        tells("b1(r0,1)", 1, 0, -5, 0);
        tells("b719(e1,0)", 1, 0, -5, 0);
        tells("b60(r60,61)", 2, 0, 1, 1);
        tells("p1(w0)", 103, 0, 7, 714);
        tells("p2(r5,9)", 2, 6, 8, 8);
        tells("p99(e1,0)", 7, 98, 197, 692);
        tells("x0(r5,7)", 2, 6, 7, 7);
        tells("x2(r5,7)", 2, 5, 6, 6);
        tells("x3(r5,7)", 3, 5, 6, 7);
        tells("x719(e1,0)", 719, 0, 1, 718);
        tells("x0(x0(w2))", 101, 16, 23, 716);
        tells("p2(x0(p2(e1,0)))", 179, 5, 9, 717);
    }

    private static void numbers() {
        tells("w06", 102, 6, 13, 713);
        tells("w0006", 102, 6, 13, 713);
        tells("e0719,0000", 2, 0, 719, 719);
        tells("n01m(w3)", 24, 3, 31, 696);
        fault("w00060", 5);
        fault("w00007", 5);
        fault("w0007", 1);
        fault("e00001,0", 1);
        fault("r12345,1", 1);
        fault("m00123", 5);
    }

    private static void faultsOfNumbers() {
        fault("w7", 1);
        fault("w9|", 1);
        fault("d0", 1);
        fault("d31", 1);
        fault("m0", 1);
        fault("m13", 1);
        fault("y2", 1);
        fault("e0,5", 1);
        fault("e720,5", 1);
        fault("e5,720", 3);
        fault("r720,719", 1);
        fault("r5,4", 3);
        fault("r5,720", 3);
        fault("w0|r10,009", 7);
        fault("n0w(w0)", 1);
        fault("n100w(w0)", 1);
        fault("l0m(w0)", 1);
        fault("l100m(w0)", 1);
        fault("s0(w0)", 1);
        fault("s720(w0)", 1);
        fault("b0(w0)", 1);
        fault("b720(w0)", 1);
        fault("p0(w0)", 1);
        fault("p100(w0)", 1);
        fault("x720(w0)", 1);
        fault("x9999(w7", 1);
        fault("n0", 1);
    }

    private static void faultsOfBytes() {
        fault("w0w", 2);
        fault("w0)", 2);
        fault(" w0", 0);
        fault("w 0", 1);
        fault("w0 ", 2);
        fault("W0", 0);
        fault("w-1", 1);
        fault("5", 0);
        fault("!!w0", 1);
        fault("!&", 1);
        fault("|w0", 0);
        fault("w0||w1", 3);
        fault("w0|/w1", 3);
        fault("w0&&w1", 3);
        fault("w0!w1", 2);
        fault("e5;5", 2);
        fault("e,5", 1);
        fault("r5,,6", 3);
        fault("n1d(w0)", 2);
        fault("n1(w0)", 2);
        fault("n1ww0", 3);
        fault("l1y[w0]", 3);
        fault("s1w0", 2);
        fault("s(w0)", 1);
        fault("x1()", 3);
        fault("()", 1);
        fault("(w0))", 4);
        fault("(w0]", 3);
        fault("AB", 1);
        fault("\u007f", 0);
        fault("z9", 0);
    }

    private static void endsTooEarly() {
        fault("", 0);
        fault("w", 1);
        fault("!", 1);
        fault("w0|", 3);
        fault("w0&", 3);
        fault("w0/!", 4);
        fault("e5", 2);
        fault("e5,", 3);
        fault("r719,", 5);
        for (String letter : new String[] {"d", "m", "y", "e", "r", "n", "l", "s", "b", "p", "x", "("}) {
            fault(letter, 1);
            fault("w0|" + letter, 4);
        }
        fault("n1", 2);
        fault("n1m", 3);
        fault("n1m(", 4);
        fault("n1m(w0", 6);
        fault("x0", 2);
        fault("(w0", 3);
        fault("((w0)", 5);
    }

    private static void brackets() {
        tells("(((((w0)))))", 103, 0, 7, 714);
        fault("((((((w0))))))", 5);
        tells("x0(x0(x0(x0(x0(w0)))))", 98, 35, 42, 714);
        fault("x0(x0(x0(x0(x0(x0(w0))))))", 15);
        fault("(n1m(s1(p1(x1((w0))))))", 14);
        fault("(((((!(w0))))))", 6);
        tells("(((((w0)))))|(((((w1)))))", 206, 0, 1, 715);
        tells("(w0|(w1&(!w2|(w3/(w4)))))", 206, 0, 1, 715);
        tells("!(!(!(!(!(w0)))))", 617, 1, 2, 719);
        tells("x1(r0,9|r20,29/x2(r3,5))&!(r0,0)", 16, 2, 5, 29);
    }

    /** A letter that needs a bracket of its own is none within five others, whatever stands behind it. */
    private static void lettersWithinFive() {
        for (String letter : new String[] {"n", "l", "s", "b", "p", "x"}) {
            String block = letter.equals("n") || letter.equals("l") ? "m" : "";
            for (String behind : new String[] {"", "1", "0", "9999", "1" + block, "1" + block + "(", "1" + block + "(w0))))))", "z"}) {
                fault("(((((" + letter + behind, 5);
                fault("(((((!" + letter + behind, 6);
                fault("(((((w0|" + letter + behind, 8);
                fault("(((((w0&!" + letter + behind, 9);
                fault("(((((w0)|(" + letter + behind, 10);
                fault("n1w(l1m(s1(b1(p1(" + letter + behind, 17);
                fault("w0|(((((w0)))))/(x0((((" + letter + behind, 23);
            }
            alike("((((" + letter + "1" + block + "(!r0,3)))))", letter + "1" + block + "(!r0,3)");
            fault("((((" + letter, 5);
            fault("((((" + letter + "1" + block + "(" + letter + "1", 7 + block.length());
        }
    }

    private static void wholeTape() {
        StringBuilder text = new StringBuilder("r0,0");
        while (text.length() + 5 <= 80) {
            text.append("|w0&A");
        }
        fault(text.toString() + "|", text.length() + 1);
        RecurringDays x = new RecurringDays();
        CHECKS.due("a long text", Checks.rule(x, 0, text.toString()), 1);
        StringBuilder open = new StringBuilder();
        while (open.length() < 80) {
            open.append("w0|!(");
        }
        CHECKS.due("80 bytes", open.length(), 80);
        fault(open.toString(), 29);
        fault("w0|w1|w2|w3|w4|w5|w6|d1|d2|d3|d4|d5|d6|d7|d8|d9|m1|m2|m3|m4|m5|m6|m7|m8|m9|y01|y", 80);
    }
}
