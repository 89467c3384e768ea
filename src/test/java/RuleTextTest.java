import java.util.ArrayList;
import java.util.List;
import java.util.function.IntFunction;

/** A RULE as a text, sign by sign (Term 1), and where a text's FAULT is (Term 2): a test for each sentence. */
public final class RuleTextTest {
    private static final Sentences T = new Sentences();
    private static final String[] OPENERS = {"(", "n1w(", "l1m(", "s1(", "b1(", "p1(", "x1("};

    public static void main(String[] args) {
        sums();
        units();
        eachAndSpans();
        names();
        ofBlocks();
        moved();
        everyNthAndAllButOne();
        brackets();
        numbers();
        tape();
        faults();
        T.end("RuleTextTest", "Term", 2);
    }

    /** A run: the text tells just these days. */
    private static String tells(String text, int... days) {
        StringBuilder run = new StringBuilder("rule(3, \"" + text + "\") -> " + days.length + "\n");
        for (int i = 0; i < days.length; i++) {
            run.append("at(3, ").append(i).append(") -> ").append(days[i]).append('\n');
        }
        return run.append("at(3, ").append(days.length).append(") -> NO_DAY\n").toString();
    }

    /** A run: the text tells so many days, of which these are the first, the second and the last. */
    private static String tellsMany(String text, int size, int first, int second, int last) {
        return "rule(3, \"" + text + "\") -> " + size + "\nat(3, 0) -> " + first + "\nat(3, 1) -> " + second + "\nat(3, -1) -> " + last;
    }

    /** A run: the text has its FAULT at a place, and does nothing. */
    private static String fault(String text, int place) {
        return "rule(3, \"r5,6\") -> 2\n" + fed(text) + "\nrule(3) -> " + (-100 - place)
            + "\ntold(4) -> 0\nat(3, 0) -> 5\nat(3, -1) -> 6\ntold(0) -> 1\n";
    }

    /** Calls that feed a text; byte by byte, as a run can't hold each byte in a text. */
    private static String fed(String text) {
        StringBuilder calls = new StringBuilder();
        for (char letter : text.toCharArray()) {
            calls.append("feed(").append((int) letter).append(") ");
        }
        return calls.toString();
    }

    private static String[] each(int least, int most, IntFunction<String> run) {
        List<String> runs = new ArrayList<>();
        for (int i = least; i <= most; i++) {
            runs.add(run.apply(i));
        }
        return runs.toArray(new String[0]);
    }

    private static void sums() {
        T.test("Term 1, E: T, E|T or E/T: from the left on",
            tells("r0,3/r0,1|r0,0", 0, 2, 3), tells("r0,3|r5,5/r0,1", 2, 3, 5), tells("r0,3/r0,1/r2,2", 3),
            tells("r0,3/r0,3|r9,9|r8,8", 8, 9));
        T.test("Term 1, T: F or T&F: & is before | and /",
            tells("r0,1|r5,6&r6,7", 0, 1, 6), tells("r6,7&r5,6|r0,1", 0, 1, 6), tells("r0,2/r0,5&r2,9", 0, 1),
            tells("r1,5&r4,9/r4,4", 5), tells("r0,9&r3,12&r2,4", 3, 4));
        T.test("Term 1, E|T: what is in either", tells("r1,2|r2,3", 1, 2, 3), tells("r719,719|r0,0", 0, 719), tells("r1,1|r1,1", 1),
            tells("w0&w1|r4,4", 4), tells("r4,4|w0&w1", 4));
        T.test("Term 1, E/T: what is in E and not in T", tells("r1,5/r2,4", 1, 5), tells("r2,3/r1,5"), tells("r1,2/r3,4", 1, 2),
            tells("r718,719/r719,719", 718), tells("r0,1/r0,0", 1));
        T.test("Term 1, T&F: in both", tells("r1,5&r4,9", 4, 5), tells("r1,2&r3,4"), tells("r0,719&r719,719", 719),
            tells("r0,0&r0,719", 0));
        T.test("Term 1, !F: all that isn't in F", tells("!r1,718", 0, 719), tells("!r0,718", 719), tells("!r1,719", 0), tells("!e1,0"),
            tellsMany("!(w0&w1)", 720, 0, 1, 719));
        T.test("Term 1, !F: of that F alone", tells("!r1,719|r7,7", 0, 7), tells("!r1,719&r0,7", 0), tells("!r3,719/r0,0", 1, 2),
            tells("r0,3&!r1,2", 0, 3), tells("r0,3/!r1,2", 1, 2), tells("!r1,718&!r0,0", 719));
        T.test("Term 1, !F (one that doesn't begin with !)", fault("!!w0", 1), fault("w0&!!w0", 4), fault("!(!!w0)", 3),
            fault("!!", 1));
        T.test("Term 1, !F: one that begins with ! in a bracket is one that doesn't", tells("!(!r4,5)", 4, 5),
            tells("!(!(!r1,719))", 0));
        T.test("Term 1, F: (E)", tells("(r0,1|r5,6)&r6,7", 6), tells("r0,3/(r0,1|r0,0)", 2, 3), tells("r0,3/(r0,1/r0,0)", 0, 2, 3),
            tells("(r7,7)", 7), tells("!(r0,5|r7,719)", 6), fault("()", 1));
        T.test("Term 1, T&F: an F of any kind beside another", each(0, 7, i -> {
            String text = new String[] {"r3,3", "e719,3", "n1y(r3,9)", "l1y(r1,3)", "s1(r2,2)", "b1(r4,4)", "p3(r1,3)", "x0(r2,3)"}[i];
            return tells("r0,9&" + text, 3) + tells("r3,3&(r0,9&" + text + ")", 3) + tells("r9,9|" + text + "|r0,0", 0, 3, 9);
        }));
    }

    private static void units() {
        T.test("Term 1, wn: WEEKDAY n (0 .. 6)", each(0, 6,
            n -> tellsMany("w" + n, n == 6 ? 102 : 103, n, n + 7, n == 6 ? 713 : 714 + n)));
        T.test("Term 1, wn: 7 and more are no WEEKDAY", fault("w7", 1), fault("w8", 1), fault("w10", 1), fault("w9999", 1));
        T.test("Term 1, dn: DATE n (1 .. 30)", each(1, 30, n -> tellsMany("d" + n, 24, n - 1, n + 29, n + 689)));
        T.test("Term 1, dn: 0, 31 and more are no DATE", fault("d0", 1), fault("d00", 1), fault("d31", 1), fault("d9999", 1));
        T.test("Term 1, mn: MONTH n (1 .. 12)", each(1, 12, n -> tellsMany("m" + n, 60, 30 * n - 30, 30 * n - 29, 359 + 30 * n)
            + "\nat(3, 29) -> " + (30 * n - 1) + "\nat(3, 30) -> " + (330 + 30 * n)));
        T.test("Term 1, mn: 0, 13 and more are no MONTH", fault("m0", 1), fault("m13", 1), fault("m24", 1), fault("m9999", 1));
        T.test("Term 1, yn: YEAR n (0 .. 1)", tellsMany("y0", 360, 0, 1, 359), tellsMany("y1", 360, 360, 361, 719));
        T.test("Term 1, yn: 2 and more are no YEAR", fault("y2", 1), fault("y10", 1), fault("y9999", 1));
    }

    private static void eachAndSpans() {
        T.test("Term 1, ea,b: each DAY from which b is a multiple of a ahead", tells("e100,50", 50, 150, 250, 350, 450, 550, 650),
            tells("e300,119", 119, 419, 719), tells("e300,120", 120, 420), tellsMany("e1,0", 720, 0, 1, 719),
            tellsMany("e2,1", 360, 1, 3, 719));
        T.test("Term 1, ea,b: not below b", tells("e7,700", 700, 707, 714), tells("e1,717", 717, 718, 719),
            tellsMany("e2,9", 356, 9, 11, 719));
        T.test("Term 1, ea,b: a (1 .. 719)", tells("e719,0", 0, 719), tells("e719,1", 1), tells("e718,0", 0, 718),
            tells("e1,718", 718, 719));
        T.test("Term 1, ea,b: 0, 720 and more are no a", fault("e0,5", 1), fault("e0000,5", 1), fault("e720,5", 1),
            fault("e9999,5", 1));
        T.test("Term 1, ea,b: b is a DAY (0 .. 719)", tells("e7,719", 719), tells("e719,719", 719), tells("e360,0", 0, 360));
        T.test("Term 1, ea,b: 720 and more are no b", fault("e5,720", 3), fault("e719,720", 5), fault("e1,9999", 3));
        T.test("Term 1, ra,b: from DAY a to b", tells("r59,61", 59, 60, 61), tells("r0,1", 0, 1), tells("r718,719", 718, 719),
            tellsMany("r0,719", 720, 0, 1, 719));
        T.test("Term 1, ra,b: b not below a", tells("r0,0", 0), tells("r5,5", 5), tells("r719,719", 719));
        T.test("Term 1, ra,b: a b below a is none", fault("r1,0", 3), fault("r5,4", 3), fault("r719,718", 5), fault("r719,0", 5),
            fault("w0|r10,009", 7));
        T.test("Term 1, ra,b: a and b are DAYS (0 .. 719)", fault("r720,720", 1), fault("r720,719", 1), fault("r0,720", 3),
            fault("r719,720", 5), fault("r9999,1", 1), fault("r1,9999", 3));
        T.test("Term 1, ea,b and ra,b: the comma stands there", fault("e5;5", 2), fault("e5", 2), fault("e5|5", 2), fault("r5.6", 2),
            fault("r5", 2), fault("e5,,5", 3), fault("r5,,6", 3), fault("e,5", 1), fault("r,5", 1), fault("e5 ,5", 2));
    }

    private static void names() {
        T.test("Term 1, a NAME: a letter A .. J", each(0, 9, name -> "extra(" + name + ", " + 70 * name + ") -> 1\nrule("
            + (name + 1) % 10 + ", \"" + (char) ('A' + name) + "\") -> 1\nat(" + (name + 1) % 10 + ", 0) -> " + 70 * name));
        T.test("Term 1, a NAME: what is before A or behind J is none", fault("@", 0), fault("K", 0), fault("Z", 0), fault("a", 0),
            fault("w0|K", 3), fault("AB", 1), fault("A1", 1));
        T.test("Term 1, a NAME: its DAYS, with EXTRA ones and without those OUT", """
            rule(0, "r1,3") -> 3
            out(0, 2) -> 1
            extra(0, 9) -> 1
            rule(1, "A") -> 3
            at(1, 0) -> 1
            at(1, 1) -> 3
            at(1, 2) -> 9
            """);
        T.test("Term 1, a NAME: none without a RULE but EXTRA ones", """
            rule(1, "E") -> 0
            rule(1, "!E") -> 720
            extra(4, 8) -> 1
            rule(1, "E") -> 1
            at(1, 0) -> 8
            """);
        T.test("Term 1, a NAME: its DAYS as the text is read", """
            rule(0, "r1,3") -> 3
            rule(1, "A|r9,9") -> 4
            rule(0, "r5,5") -> 1
            out(0, 5) extra(0, 6) -> 1
            drop(0) -> 1
            count(1, 1, 3) -> 3
            count(1, 0, 719) -> 4
            """);
        T.test("Term 1, a NAME: in its own RULE it is what it was", """
            rule(9, "J|r4,4") -> 1
            rule(9, "J|r6,6") -> 2
            extra(9, 8) -> 1
            rule(9, "s1(J)") -> 3
            at(9, 0) -> 5
            at(9, 1) -> 7
            at(9, 2) -> 8
            at(9, 3) -> 9
            """);
    }

    private static void ofBlocks() {
        T.test("Term 1, nkB(E): of each week the k-th DAY of E in it", tellsMany("n1w(e1,0)", 103, 0, 7, 714),
            tellsMany("n6w(e1,0)", 103, 5, 12, 719), tells("n2w(r5,9|r20,22)", 6, 8, 22));
        T.test("Term 1, nkB(E): of each month", tellsMany("n1m(w3)", 24, 3, 31, 696), tellsMany("n30m(e1,0)", 24, 29, 59, 719),
            tells("n1m(r29,30|r358,361)", 29, 30, 358, 360));
        T.test("Term 1, nkB(E): of each year", tells("n1y(r5,9|r400,401)", 5, 400), tells("n2y(r359,361)", 361),
            tells("n99y(e1,0)", 98, 458), tells("n1y(e1,0)", 0, 360));
        T.test("Term 1, nkB(E): if there is one", tellsMany("n7w(e1,0)", 102, 6, 13, 713), tells("n8w(e1,0)"), tells("n31m(e1,0)"),
            tells("n99m(e1,0)"), tells("n2y(r5,5|r400,401)", 401), tells("n1w(w0&w1)"), tells("n4y(r7,9)"));
        T.test("Term 1, nkB(E): k (1 .. 99)", tells("n1y(r300,499)", 300, 360), tells("n98y(r300,499)", 457),
            tells("n99y(r300,499)", 458));
        T.test("Term 1, nkB(E): 0, 100 and more are no k", fault("n0w(w0)", 1), fault("n100w(w0)", 1), fault("n00y(w0)", 1),
            fault("n9999m(w0)", 1));
        T.test("Term 1, lkB(E): likewise from the end (l1 the last)", tellsMany("l1w(e1,0)", 103, 6, 13, 719),
            tellsMany("l1m(w3)", 24, 24, 59, 717), tellsMany("l2m(w3)", 24, 17, 52, 710), tells("l1y(r0,400)", 359, 400),
            tells("l2w(r5,9|r20,22)", 5, 8, 21), tells("l2y(r358,361)", 358, 360));
        T.test("Term 1, lkB(E): if there is one", tellsMany("l7w(e1,0)", 102, 0, 7, 707), tells("l8w(e1,0)"), tells("l31m(e1,0)"),
            tells("l99m(e1,0)"), tells("l2y(r5,5|r400,401)", 400), tells("l4y(r7,9)"), tells("l1w(w0&w1)"));
        T.test("Term 1, lkB(E): k (1 .. 99)", tells("l99y(e1,0)", 261, 621), tells("l98y(e1,0)", 262, 622),
            tells("l1y(e1,0)", 359, 719));
        T.test("Term 1, lkB(E): 0, 100 and more are no k", fault("l0m(w0)", 1), fault("l100m(w0)", 1), fault("l000w(w0)", 1),
            fault("l9999y(w0)", 1));
        T.test("Term 1, B is w, m or y", fault("n1d(w0)", 2), fault("l1d(w0)", 2), fault("n1(w0)", 2), fault("l1(w0)", 2),
            fault("n1W(w0)", 2), fault("n1ww(w0)", 3), fault("l12e(w0)", 3), fault("n1x(w0)", 2), fault("l1z(w0)", 2), fault("n,w(w0)", 1));
        T.test("Term 1, nkB(E) and lkB(E): the bracket stands there", fault("n1ww0", 3), fault("l1y[w0]", 3), fault("n1m)", 3),
            fault("l99m!(w0)", 4), fault("n1w()", 4), fault("n1w(w0", 6), fault("l1m(w0]", 6), fault("n1w(w0))", 7));
    }

    private static void moved() {
        T.test("Term 1, sk(E): k DAYS later than those of E", tells("s1(r5,6|r9,9)", 6, 7, 10), tells("s59(r0,1)", 59, 60),
            tells("s60(r1,2)", 61, 62), tells("s100(r0,0|r619,619)", 100, 719));
        T.test("Term 1, sk(E): what comes behind 719 is none", tells("s1(r718,719)", 719), tells("s1(r719,719)"), tells("s719(r1,719)"),
            tells("s1(r0,0|r719,719)", 1));
        T.test("Term 1, sk(E): k (1 .. 719)", tells("s719(e1,0)", 719), tells("s718(e1,0)", 718, 719),
            tellsMany("s1(e1,0)", 719, 1, 2, 719));
        T.test("Term 1, sk(E): 0, 720 and more are no k", fault("s0(w0)", 1), fault("s720(w0)", 1), fault("s9999(w0)", 1));
        T.test("Term 1, bk(E): k DAYS earlier than those of E", tells("b1(r5,6|r9,9)", 4, 5, 8), tells("b60(r60,61)", 0, 1),
            tells("b59(r60,61)", 1, 2), tells("b100(r100,100|r719,719)", 0, 619));
        T.test("Term 1, bk(E): what comes before 0 is none", tells("b1(r0,1)", 0), tells("b1(r0,0)"), tells("b719(r0,718)"),
            tells("b1(r0,0|r719,719)", 718));
        T.test("Term 1, bk(E): k (1 .. 719)", tells("b719(e1,0)", 0), tells("b718(e1,0)", 0, 1), tellsMany("b1(e1,0)", 719, 0, 1, 718));
        T.test("Term 1, bk(E): 0, 720 and more are no k", fault("b0(w0)", 1), fault("b720(w0)", 1), fault("b9999(w0)", 1));
    }

    private static void everyNthAndAllButOne() {
        T.test("Term 1, pk(E): of E, from the first on, the k-th, the 2 k-th, and so on", tells("p2(r5,9)", 6, 8),
            tells("p3(r0,8)", 2, 5, 8),
            tells("p2(r0,0|r7,7|r9,9|r719,719)", 7, 719), tellsMany("p2(e1,0)", 360, 1, 3, 719));
        T.test("Term 1, pk(E): none of fewer than k", tells("p4(r5,7)"), tells("p3(r5,7)", 7), tells("p99(r0,97)"), tells("p1(w0&w1)"));
        T.test("Term 1, pk(E): k (1 .. 99)", tellsMany("p1(w0)", 103, 0, 7, 714), tellsMany("p99(e1,0)", 7, 98, 197, 692),
            tells("p98(r0,98)", 97));
        T.test("Term 1, pk(E): 0, 100 and more are no k", fault("p0(w0)", 1), fault("p100(w0)", 1), fault("p9999(w0)", 1));
        T.test("Term 1, xk(E): E without the k-th (0 the first)", tells("x0(r5,7)", 6, 7), tells("x1(r5,7)", 5, 7),
            tells("x2(r5,7)", 5, 6),
            tells("x0(r9,9)"), tells("x0(x0(r5,7))", 7));
        T.test("Term 1, xk(E): all of E, if there is no k-th", tells("x3(r5,7)", 5, 6, 7), tells("x719(r5,7)", 5, 6, 7),
            tells("x0(w0&w1)"));
        T.test("Term 1, xk(E): k (0 .. 719)", tellsMany("x719(e1,0)", 719, 0, 1, 718), tellsMany("x718(e1,0)", 719, 0, 1, 719),
            tellsMany("x0(e1,0)", 719, 1, 2, 719));
        T.test("Term 1, xk(E): 720 and more are no k", fault("x720(w0)", 1), fault("x721(w0)", 1), fault("x9999(w0)", 1));
        T.test("Term 1, sk(E), bk(E), pk(E), xk(E): number and bracket stand there", fault("s(w0)", 1), fault("b,", 1),
            fault("p!", 1), fault("x(w0)", 1),
            fault("s1w0", 2), fault("b1!(w0)", 2), fault("p99w(w0)", 3), fault("x0)", 2), fault("s1()", 3), fault("x1(w0", 5),
            fault("p1(w0]", 5),
            fault("b1(w0))", 6));
    }

    private static void brackets() {
        T.test("Term 1, a ( within 4 others is one", tells("(((((r5,6)))))", 5, 6), tells("x0(x0(x0(x0(x0(r1,6)))))", 6),
            tells("!(!(!(!(!(r0,718)))))", 719), tells("n1y(l1m(s1(b1(p1(r7,7)))))", 7), tells("((((n1w(r5,6)))))", 5));
        T.test("Term 1, a ( within 5 others is none", fault("((((((w0))))))", 5), fault("((((((", 5), fault("(((((!(w0", 6),
            fault("(((((w0&(w1", 8),
            fault("x0(x0(x0(x0(x0((w0", 15), fault("n1w(l1m(s1(b1(p1((w0", 17));
        T.test("Term 1, a ( within 5 others is none: of whatever kind the others are", each(0, OPENERS.length - 1, i -> {
            String five = OPENERS[i].repeat(5);
            return fault(five + "(", five.length()) + fault(five + "w0|(", five.length() + 3);
        }));
        T.test("Term 1, a ( within 5 others is none: no RULE goes on with n, l, s, b, p, x there", each(1, OPENERS.length - 1, i -> {
            String opener = OPENERS[i];
            String letter = opener.substring(0, 1);
            return fault("(((((" + opener + "w0", 5) + fault("(((((" + letter, 5) + fault("(((((" + letter + "9999", 5)
            + fault("(((((!" + letter + "0", 6)
                + fault("(((((w0&!" + letter + "z", 9) + fault("n1w(l1m(s1(b1(p1(" + opener, 17) + fault("((((" + opener + opener, 4
                + opener.length());
        }));
        T.test("Term 1, a ( behind others that are closed is within none of them", tells("(((((r5,5)))))|(((((r7,7)))))", 5, 7),
            tells("((((r1,1)|(r2,2))|((r3,3))))|(((((r4,4)))))", 1, 2, 3, 4), fault("(((((w0)))))|((((((w0", 18),
            fault("(((((w0)|((w0", 10));
    }

    private static void numbers() {
        T.test("Term 1, numbers: as many figures as stand there", tellsMany("w06", 102, 6, 13, 713), tells("r7,8", 7, 8),
            tells("r78,79", 78, 79),
            tells("r178,179", 178, 179), fault("w60", 1), fault("w1 2", 2), fault("r1,2w3", 4));
        T.test("Term 1, numbers: 4 figures", tellsMany("w0006", 102, 6, 13, 713), tells("e0719,0000", 0, 719),
            tells("r0007,0008", 7, 8),
            tellsMany("n0001m(w3)", 24, 3, 31, 696), tellsMany("x0000(e1,0)", 719, 1, 2, 719), tells("s0719(e1,0)", 719),
            fault("w0007", 1),
            fault("r0719,0720", 6));
        T.test("Term 1, numbers: 4 figures at most: a fifth isn't one of it", fault("w00060", 5), fault("w00006", 5),
            fault("e00071,0", 5), fault("r1,00719", 7),
            fault("m00123", 5), fault("n00011w(w0)", 5));
        T.test("Term 1, numbers: 4 figures at most: those tell the number", fault("w00070", 1), fault("e00001,0", 1),
            fault("r12345,1", 1), fault("d00000", 1));
        T.test("Term 1, numbers: a figure at least", fault("w", 1), fault("wx", 1), fault("w-1", 1), fault("w+1", 1), fault("w 0", 1),
            fault("d|", 1),
            fault("e5,)", 3), fault("r1,w0", 3), fault("n(w0)", 1), fault("w/0", 1), fault("w:0", 1), fault("d:", 1), fault("d1:", 2),
            fault("d1;", 2), fault("r:,99", 1), fault("e1:,0", 2));
    }

    private static void tape() {
        String eighty = "w0|".repeat(26) + "w0";
        T.test("Term 2, THE TAPE holds 80 bytes: a text of 80", "tape(\"" + eighty + "\") -> 80\nrule(3) -> 103\n");
        T.test("Term 2, THE TAPE holds no more: the 81st isn't of the text",
            "tape(\"" + eighty + "\") -> 80\nfeed(124) feed(119) -> FULL\ntold(4) -> 80\nrule(3) -> 103\n");
        T.test("Term 2, THE TAPE holds 0 bytes: the text ends too early", "rule(3) -> -100\n", fault("", 0));
        T.test("Term 2, a FAULT at the last of 80 bytes, and behind it", fault("w0|".repeat(26) + "w7", 79), fault("w00|"
            + "w0|".repeat(25) + "w", 80),
            fault("w00|".repeat(20), 80), fault("(".repeat(5) + "w0|".repeat(25), 80));
    }

    private static void faults() {
        T.test("Term 2, a FAULT of a number that may not be: where it begins", fault("w7", 1), fault("w0|d31", 4),
            fault("w0&m0013", 4), fault("e7,720", 3),
            fault("(((y2", 4), fault("r100,99", 5), fault("!x720(w0)", 2));
        T.test("Term 2, a FAULT of a number: looked at as soon as it is taken", fault("n0", 1), fault("l100", 1), fault("s720", 1),
            fault("b0", 1), fault("p100", 1),
            fault("x9999(w7", 1), fault("e0", 1), fault("r720", 1), fault("e720x", 1), fault("r9999;1", 1), fault("r5,4)", 3),
            fault("w7|", 1), fault("n100d(", 1));
        T.test("Term 2, otherwise the FAULT is the first byte with which no RULE goes on", fault("w0w", 2), fault("w0)", 2),
            fault(" w0", 0), fault("w0 ", 2),
            fault("W0", 0), fault("5", 0), fault("|w0", 0), fault("&", 0), fault("/", 0), fault(")", 0), fault(",", 0),
            fault("w0||w1", 3), fault("w0|/w1", 3),
            fault("w0/&w1", 3), fault("w0&&w1", 3), fault("w0!w1", 2), fault("w0(w1)", 2), fault("!&", 1), fault("!)", 1),
            fault("(w0]", 3), fault("(w0))", 4),
            fault("w0,", 2), fault("r5,6,7", 4), fault("z9", 0), fault("\u0001", 0), fault("\u007f", 0), fault("w0\u007f", 2),
            fault("w\u0001", 1));
        T.test("Term 2, otherwise the FAULT is the first byte: each that begins no F", each(1, 127, letter -> {
            boolean begins = "!(wdmyernlsbpxABCDEFGHIJ".indexOf(letter) >= 0;
            return begins ? "told(0) -> 0" : fault(String.valueOf((char) letter), 0) + fault("(" + (char) letter, 1)
                + fault("w0&" + (char) letter, 3) + fault("r1,2|!" + (char) letter, 6);
        }));
        T.test("Term 2, otherwise the FAULT is the first byte: each that doesn't go on behind an F", each(1, 127, letter -> {
            boolean goesOn = "|/&".indexOf(letter) >= 0;
            String more = String.valueOf((char) letter);
            return goesOn ? "told(0) -> 0"
                : fault("A" + more, 1) + fault("(w0)" + more, 4) + (letter == ')' ? "" : fault("(A" + more, 2));
        }));
        T.test("Term 2, the FAULT is the length, if the text ends too early", each(0, 13, i -> fault("!(w0&x1(r5,9))".substring(0, i),
            i)));
        T.test("Term 2, the FAULT is the length: behind each letter and sign", each(0, 13, i -> {
            String sign = "wdmyernlsbpx!(".substring(i, i + 1);
            return fault(sign, 1) + fault("w0|" + sign, 4) + fault("(A&" + sign, 4);
        }));
        T.test("Term 2, the FAULT is the length: behind | / & and within each kind", fault("w0|", 3), fault("w0/", 3),
            fault("w0&", 3), fault("w0/!", 4), fault("e5", 2),
            fault("e5,", 3), fault("r719,", 5), fault("n1", 2), fault("n1m", 3), fault("l1y(", 4), fault("n1m(w0", 6), fault("x0", 2),
            fault("s1(", 3),
            fault("(w0", 3), fault("((w0)", 5), fault("(w0|", 4));
        T.test("Term 2, of several FAULTS the least place", fault("w7w8", 1), fault("w0)w9", 2), fault("(w0|d0", 5), fault("w0||", 3),
            fault("((((((w9", 5),
            fault("!!w7", 1), fault("e0,720", 1), fault("r720,0", 1), fault("x720", 1), fault("K7", 0));
        T.test("Term 2, a text with a FAULT does nothing", """
            rule(0, "r5,6") -> 2
            out(0, 5) extra(0, 9) -> 1
            count(0, 0, 9) -> 2
            rule(0, "r1,1)") -> -104
            rule(0, "r1,1|w7") -> -106
            rule(0, "r1,1|") -> -105
            rule(0) -> -100
            at(0, 0) -> 6
            at(0, 1) -> 9
            at(0, 2) -> NO_DAY
            told(0) told(3) told(5) told(6) -> 1
            rule(1, "r1,1)") -> -104
            drop(1) -> STATE
            """);
    }
}
