/** The promises 1 to 33: a test for each sentence, ordinary inputs first, then edges and what is refused. */
public final class PromiseTest {
    private static final Sentences T = new Sentences();

    /** A: WEEKDAY 0 (103 DAYS), B: DATES 1 and 15 (48), C: 10 to 12. */
    private static final String THREE = """
        rule(0, "w0") -> 103
        rule(1, "d1|d15") -> 48
        rule(2, "r10,12") -> 3
        """;
    /** List 0 holds 1 to 5, list 1 three zeros, list 2 none, list 3 nothing. */
    private static final String LISTS = """
        list(0, 5) list(1, 3) list(2, 0) -> 1
        put(0, 0, 1) put(0, 1, 2) put(0, 2, 3) put(0, 3, 4) put(0, 4, 5) -> 1
        """;

    public static void main(String[] args) {
        newObject();
        feed();
        clear();
        rule();
        drop();
        copy();
        outAndExtra("7", "out");
        outAndExtra("8", "extra");
        out();
        extra();
        has();
        next();
        ahead();
        at();
        count();
        gap();
        period();
        clash();
        unlike();
        merged();
        whose();
        busiest();
        free();
        parts();
        nth();
        told();
        remembered();
        list();
        put();
        get();
        move();
        lay();
        judge();
        image();
        undo();
        T.end("PromiseTest", "Promise", 33);
    }

    /** A list's first places. */
    private static String holds(int list, int... values) {
        return Sentences.each(0, values.length - 1, i -> "get(" + list + ", " + i + ") -> " + values[i]);
    }

    private static void newObject() {
        T.test("Promise 1, no RULES", "told(0) image() -> 0\n" + Sentences.eachName("""
            drop(NAME) copy(NAME, 0) -> STATE
            at(NAME, 0) -> NO_DAY
            """));
        T.test("Promise 1, nothing else either", """
            told(1) told(2) told(3) told(4) told(5) told(6) merged(1023, -1) clear() -> 0
            undo() -> STATE
            get(0, 0) get(1, 0) get(2, 0) get(3, 0) -> NO_PLACE
            put(0, 0, 1) put(1, 0, 1) put(2, 0, 1) put(3, 0, 1) -> NOTHING
            remembered(0, 0) -> NONE
            """);
    }

    private static void feed() {
        T.test("Promise 2, a byte (1 .. 127)", "feed(1) -> 1\nfeed(127) -> 2\nfeed(64) -> 3\ntold(4) -> 3");
        T.test("Promise 2, it comes behind THE TAPE's", """
            feed(119) -> 1
            feed(48) -> 2
            rule(0) -> 103
            feed(48) -> 1
            feed(119) -> 2
            rule(0) -> -100
            """);
        T.test("Promise 2, how many it has", Sentences.each(1, 80, i -> "feed(119) -> " + i) + "told(4) -> 80");
        T.test("Promise 2, BAD: below 1", "feed(0) feed(-1) feed(MIN) feed(-137) -> BAD\ntold(4) -> 0");
        T.test("Promise 2, BAD: above 127", "feed(128) feed(255) feed(256) feed(375) feed(MAX) -> BAD\ntold(4) -> 0");
        T.test("Promise 2, FULL: behind 80", "tape(\"" + "w0|".repeat(26)
            + "w\") -> 79\nfeed(48) -> 80\nfeed(124) feed(48) -> FULL\ntold(4) -> 80\nrule(0) -> 103\nfeed(119) -> 1");
    }

    private static void clear() {
        T.test("Promise 3, THE TAPE is empty then", """
            tape("w0|") -> 3
            clear() -> 3
            told(4) clear() -> 0
            rule(0, "r1,2") -> 2
            tape("w0")
            clear() -> 2
            rule(0) -> -100
            """);
        T.test("Promise 3, how many bytes it had", "clear() -> 0\nfeed(119) clear() -> 1\ntape(\"" + "(".repeat(80)
            + "\") clear() -> 80\nfeed(119) -> 1");
        T.test("Promise 3, how many bytes it had: none behind a RULE", """
            rule(0, "w0") -> 103
            clear() -> 0
            rule(0, "w7") -> -101
            clear() -> 0
            """);
    }

    private static void rule() {
        T.test("Promise 4, THE TAPE is the RULE of a NAME then", """
            rule(9, "r5,6") -> 2
            at(9, 0) -> 5
            rule(9, "r8,8") -> 1
            at(9, 0) at(9, -1) -> 8
            told(0) -> 1
            """);
        T.test("Promise 4, OUT and EXTRA DAYS stay", """
            out(9, 5) extra(9, 100)
            rule(9, "r5,6") -> 2
            at(9, 0) -> 6
            at(9, 1) -> 100
            told(5) told(6) -> 1
            """);
        T.test("Promise 4, how many DAYS the RULE has", "rule(0, \"w0&w1\") -> 0\nrule(0, \"e1,0\") -> 720\nrule(0, \"r719,719\") -> 1");
        T.test("Promise 4, how many DAYS the RULE has: not those OUT or EXTRA", """
            out(0, 5) extra(0, 9) extra(0, 11)
            rule(0, "r5,6") -> 2
            rule(1, "A") -> 3
            rule(2, "B") -> 3
            """);
        T.test("Promise 4, -100 less the FAULT", "rule(0) -> -100\nrule(0, \"w0w\") -> -102\nrule(0, \"" + "w00|".repeat(20)
            + "\") -> -180\ntold(0) -> 0");
        T.test("Promise 4, NONE: name", "tape(\"w0\")\nrule(-1) rule(10) rule(MIN) rule(MAX) -> NONE");
        T.test("Promise 4, NONE: THE TAPE stays", "tape(\"w0\")\nrule(10) rule(-1) -> NONE\ntold(4) -> 2\nfeed(48) -> 3\nrule(9) -> 103");
    }

    private static void drop() {
        T.test("Promise 5, a NAME has no RULE", THREE + "drop(1) -> 48\ntold(0) -> 2\nat(1, 0) -> NO_DAY\ndrop(0) -> 103");
        T.test("Promise 5, OUT and EXTRA DAYS stay", THREE + """
            out(1, 0) extra(1, 5)
            drop(1) -> 48
            at(1, 0) at(1, -1) -> 5
            rule(1, "r0,1") -> 2
            at(1, 0) -> 1
            """);
        T.test("Promise 5, how many DAYS that had: not those OUT or EXTRA", THREE + """
            out(1, 0) extra(1, 5)
            drop(1) -> 48
            rule(1, "w0&w1") -> 0
            drop(1) -> 0
            rule(1, "e1,0")
            drop(1) -> 720
            """);
        T.test("Promise 5, NONE", "drop(-1) drop(10) drop(MIN) drop(MAX) -> NONE");
        T.test("Promise 5, STATE: it has none", THREE + "extra(3, 5)\ndrop(3) -> STATE\ndrop(1) -> 48\ndrop(1) -> STATE");
    }

    private static void copy() {
        T.test("Promise 6, another NAME has the RULE of a NAME", THREE + """
            copy(2, 9) -> 3
            at(9, 0) -> 10
            at(9, -1) -> 12
            told(0) -> 4
            copy(2, 0) -> 3
            told(0) -> 4
            unlike(0, 9) -> NO_DAY
            """);
        T.test("Promise 6, (not what is OUT or EXTRA)", THREE + """
            out(2, 10) extra(2, 100) -> 1
            out(5, 12) extra(5, 7) -> 1
            copy(2, 5) -> 3
            at(5, 0) -> 7
            at(5, 1) -> 10
            at(5, 2) -> 11
            at(5, 3) -> NO_DAY
            at(2, 0) -> 11
            at(2, -1) -> 100
            """);
        T.test("Promise 6, how many DAYS that has: the RULE", THREE + """
            out(2, 10)
            out(2, 11)
            copy(2, 5) copy(5, 2) -> 3
            rule(3, "w0&w1")
            copy(3, 5) -> 0
            rule(3, "e1,0")
            copy(3, 5) -> 720
            """);
        T.test("Promise 6, it is a RULE of its own then", THREE + """
            copy(2, 5) -> 3
            rule(2, "r1,1") -> 1
            drop(5) -> 3
            copy(2, 5) -> 1
            drop(2) -> 1
            at(5, 0) -> 1
            """);
        T.test("Promise 6, to itself", THREE + "copy(2, 2) -> 3\nat(2, 0) -> 10\ntold(0) -> 3\ndrop(2) -> 3");
        T.test("Promise 6, NONE: either", THREE + """
            copy(-1, 0) copy(10, 0) copy(MIN, 0) copy(MAX, 0) copy(0, -1) copy(0, 10) copy(0, MIN) copy(0, MAX) -> NONE
            copy(5, 10) copy(10, 5) -> NONE
            """);
        T.test("Promise 6, STATE: the first has none", THREE + """
            extra(5, 1)
            copy(5, 0) copy(5, 6) copy(5, 5) -> STATE
            drop(0) -> 103
            copy(0, 1) -> STATE
            drop(1) -> 48
            """);
        T.test("Promise 6, SPANS of the other one are REMEMBERED no more, though it be the same RULE", THREE + """
            copy(0, 5) -> 103
            count(5, 0, 50) count(0, 0, 50) -> 8
            copy(0, 5) -> 103
            told(3) -> 1
            remembered(0, 0) -> 0
            """);
        T.test("Promise 6, SPANS are REMEMBERED no more, though it be the same NAME", THREE + """
            count(0, 0, 50) -> 8
            count(1, 0, 50) -> 4
            copy(0, 0) -> 103
            told(3) remembered(0, 0) -> 1
            """);
    }

    /** What promises 7 and 8 have alike. */
    private static void outAndExtra(String promise, String call) {
        String seven = Sentences.each(1, 7, i -> "out(0, " + i + ") -> " + i);
        String p = "Promise " + promise + ", ";
        T.test(p + "how many are", (seven + "out(1, 0) out(9, 719) -> 1\nout(9, 0) -> 2").replace("out(", call + "("));
        T.test(p + "if it was, it is one no more", """
            out(0, 0) -> 1
            out(0, 719) -> 2
            out(0, 0) -> 1
            out(0, 0) -> 2
            out(0, 719) -> 1
            out(0, 0) -> 0
            out(0, 0) -> 1
            """.replace("out(", call + "("));
        T.test(p + "also with 7: no FULL", (seven + """
            out(0, 7) -> 6
            out(0, 7) -> 7
            out(0, 1) -> 6
            out(0, 8) -> 7
            """).replace("out(", call + "("));
        T.test(p + "NONE: name", "out(-1, 0) out(10, 0) out(MIN, 0) out(MAX, 0) -> NONE\ntold(5) told(6) -> 0".replace("out(", call
            + "("));
        T.test(p + "BAD: day", "out(0, -1) out(0, 720) out(9, MIN) out(9, MAX) -> BAD\ntold(5) told(6) -> 0".replace("out(", call
            + "("));
        T.test(p + "FULL: an eighth", (seven + """
            out(0, 8) out(0, 0) out(0, 719) -> FULL
            told(5) -> 7
            out(1, 8) -> 1
            """).replace("out(", call + "(")
            .replace("told(5)", call.equals("out") ? "told(5)" : "told(6)"));
    }

    private static void out() {
        T.test("Promise 7, a DAY is left OUT", """
            rule(0, "r0,9") -> 10
            out(0, 0) -> 1
            has(0, 0) -> 0
            at(0, 0) -> 1
            out(0, 9) -> 2
            at(0, -1) -> 8
            out(0, 0) -> 1
            at(0, 0) -> 0
            told(5) -> 1
            """);
        T.test("Promise 7, one that isn't there, too", """
            rule(0, "r0,9") -> 10
            out(0, 20) -> 1
            count(0, 0, 719) -> 10
            rule(0, "r19,21") -> 3
            count(0, 0, 719) -> 2
            """);
        T.test("Promise 7, FULL: it stays in", "rule(0, \"r0,9\")\n" + Sentences.each(1, 7, i -> "out(0, " + i + ") -> " + i) + """
            out(0, 8) -> FULL
            has(0, 8) -> 1
            count(0, 0, 719) -> 3
            """);
        T.test("Promise 7, EXTRA ones are another matter", Sentences.each(1, 7, i -> "extra(0, " + i + ") -> " + i) + """
            out(0, 9) -> 1
            out(0, 1) -> 2
            told(6) -> 7
            """);
    }

    private static void extra() {
        T.test("Promise 8, a DAY is EXTRA", """
            extra(0, 0) -> 1
            has(0, 0) -> 1
            extra(0, 719) -> 2
            at(0, -1) -> 719
            extra(0, 0) -> 1
            has(0, 0) -> 0
            told(6) -> 1
            told(0) -> 0
            """);
        T.test("Promise 8, one that is there, too", """
            rule(0, "r0,1") -> 2
            extra(0, 1) -> 1
            count(0, 0, 719) -> 2
            extra(0, 1) -> 0
            has(0, 1) -> 1
            """);
        T.test("Promise 8, FULL: it stays away", Sentences.each(1, 7, i -> "extra(0, " + i + ") -> " + i) + """
            extra(0, 8) -> FULL
            has(0, 8) -> 0
            count(0, 0, 719) -> 7
            """);
        T.test("Promise 8, OUT ones are another matter", Sentences.each(1, 7, i -> "out(0, " + i + ") -> " + i) + """
            extra(0, 9) -> 1
            extra(0, 1) -> 2
            told(5) -> 7
            """);
    }

    private static void has() {
        T.test("Promise 9, whether it is one of its DAYS: 1, 0", THREE + Sentences.each(0, 238, i -> "has(0, " + 3 * i + ") -> "
            + (i % 7 == 0 ? 1 : 0))
            + "has(2, 9) has(2, 13) has(9, 0) has(9, 719) -> 0\nhas(2, 10) has(2, 12) -> 1");
        T.test("Promise 9, NONE: name", "has(-1, 0) has(10, 0) has(MIN, 0) has(MAX, 0) has(10, 720) -> NONE");
        T.test("Promise 9, BAD: day", """
            rule(0, "e1,0")
            has(0, -1) has(0, 720) has(0, MIN) has(0, MAX) has(9, 720) -> BAD
            has(0, 0) has(0, 719) -> 1
            """);
    }

    private static void next() {
        T.test("Promise 10, the first of its DAYS from a DAY on", THREE + """
            next(0, 1) next(0, 7) -> 7
            next(0, 8) -> 14
            next(0, 0) -> 0
            next(2, 0) -> 10
            next(2, 11) -> 11
            """);
        T.test("Promise 10, from the last on", THREE
            + "next(0, 708) next(0, 714) -> 714\nextra(9, 719)\nnext(9, 0) next(9, 719) -> 719");
        T.test("Promise 10, -5", THREE + "next(0, 715) next(2, 13) next(2, 719) next(9, 0) -> -5");
        T.test("Promise 10, NONE", "next(-1, 0) next(10, 0) next(MIN, 0) next(MAX, 0) -> NONE");
        T.test("Promise 10, BAD", "next(0, -1) next(0, 720) next(0, MIN) next(0, MAX) -> BAD");
    }

    private static void ahead() {
        T.test("Promise 11, the last of its DAYS up to a DAY", THREE + """
            ahead(0, 7) ahead(0, 13) -> 7
            ahead(0, 14) -> 14
            ahead(2, 719) ahead(2, 12) -> 12
            ahead(2, 11) -> 11
            ahead(0, 719) -> 714
            """);
        T.test("Promise 11, up to the first", THREE + """
            ahead(0, 0) ahead(0, 6) -> 0
            ahead(2, 10) -> 10
            extra(9, 719)
            ahead(9, 719) -> 719
            """);
        T.test("Promise 11, -5", THREE + "ahead(2, 9) ahead(2, 0) ahead(9, 719) -> -5");
        T.test("Promise 11, NONE", "ahead(-1, 0) ahead(10, 0) ahead(MIN, 0) ahead(MAX, 0) -> NONE");
        T.test("Promise 11, BAD", "ahead(0, -1) ahead(0, 720) ahead(0, MIN) ahead(0, MAX) -> BAD");
    }

    private static void at() {
        T.test("Promise 12, the i-th of its DAYS (0 the first)", THREE + """
            at(2, 0) -> 10
            at(2, 1) -> 11
            at(2, 2) -> 12
            at(0, 0) -> 0
            at(0, 102) -> 714
            rule(3, "e1,0")
            at(3, 719) -> 719
            """);
        T.test("Promise 12, below 0 from the end (-1 the last)", THREE + """
            at(2, -1) -> 12
            at(2, -2) -> 11
            at(2, -3) -> 10
            at(0, -103) -> 0
            rule(3, "e1,0")
            at(3, -720) -> 0
            at(3, -1) -> 719
            """);
        T.test("Promise 12, -5: behind the last", THREE + """
            at(2, 3) at(0, 103) at(2, 720) at(2, MAX) at(9, 0) -> -5
            rule(3, "e1,0")
            at(3, 720) at(3, MAX) -> -5
            """);
        T.test("Promise 12, -5: before the first", THREE + """
            at(2, -4) at(0, -104) at(2, -720) at(2, MIN) at(9, -1) -> -5
            rule(3, "e1,0")
            at(3, -721) at(3, MIN) -> -5
            """);
        T.test("Promise 12, NONE", "at(-1, 0) at(10, 0) at(MIN, 0) at(MAX, -1) -> NONE");
    }

    private static void count() {
        T.test("Promise 13, how many of its DAYS are in the SPAN from a DAY to another", THREE + """
            count(0, 0, 719) -> 103
            count(2, 0, 719) -> 3
            count(0, 8, 13) count(9, 0, 719) -> 0
            count(1, 0, 29) -> 2
            """);
        T.test("Promise 13, both ends are of the SPAN", THREE + """
            count(0, 7, 14) -> 2
            count(0, 7, 13) count(0, 8, 14) -> 1
            rule(3, "e1,0")
            count(3, 0, 719) -> 720
            count(3, 718, 719) count(3, 0, 1) -> 2
            """);
        T.test("Promise 13, a SPAN of one DAY", THREE + "count(0, 7, 7) count(0, 0, 0) -> 1\ncount(0, 8, 8) count(0, 719, 719) -> 0");
        T.test("Promise 13, a SPAN that is REMEMBERED is answered alike", THREE + """
            count(0, 0, 50) count(0, 0, 50) -> 8
            out(0, 7)
            count(0, 0, 50) count(0, 0, 50) -> 7
            extra(0, 7) extra(0, 8)
            count(0, 0, 50) -> 8
            """);
        T.test("Promise 13, NONE", "count(-1, 0, 1) count(10, 0, 1) count(MIN, 0, 1) count(MAX, 0, 1) -> NONE\ntold(2) -> 0");
        T.test("Promise 13, BAD: from", """
            count(0, -1, 719) count(0, 720, 720) count(0, MIN, 719) count(0, MAX, MAX) count(0, -1, -1) -> BAD
            told(2) -> 0
            """);
        T.test("Promise 13, BAD: to", """
            count(0, 0, 720) count(0, 719, 720) count(0, 0, MAX) count(0, 0, -1) count(0, 0, MIN) -> BAD
            told(2) -> 0
            """);
        T.test("Promise 13, BAD: to is below from", """
            count(0, 5, 4) count(0, 1, 0) count(0, 719, 718) count(0, 719, 0) -> BAD
            told(2) told(3) -> 0
            """);
    }

    private static void gap() {
        T.test("Promise 14, GAP", THREE + "gap(0) -> 6\ngap(1) -> 15\ngap(2) -> 707\ngap(9) -> 720\nextra(9, 0)\ngap(9) -> 719");
        T.test("Promise 14, NONE", "gap(-1) gap(10) gap(MIN) gap(MAX) -> NONE");
    }

    private static void period() {
        T.test("Promise 15, PERIOD", THREE + "period(0) -> 7\nperiod(1) -> 30\nperiod(9) -> 1");
        T.test("Promise 15, -5", THREE + "period(2) -> -5\nextra(9, 0)\nperiod(9) -> -5");
        T.test("Promise 15, NONE", "period(-1) period(10) period(MIN) period(MAX) -> NONE");
    }

    private static void clash() {
        T.test("Promise 16, the first DAY from one on that both have", THREE + """
            clash(0, 1, 0) -> 0
            clash(0, 1, 1) clash(1, 0, 14) -> 14
            clash(0, 1, 15) -> 210
            clash(2, 2, 11) -> 11
            clash(2, 2, 0) -> 10
            """);
        T.test("Promise 16, from the last DAY on", "extra(0, 719) extra(1, 719)\nclash(0, 1, 0) clash(0, 1, 719) -> 719");
        T.test("Promise 16, -5", THREE
            + "clash(0, 1, 715) clash(1, 2, 0) clash(0, 9, 0) clash(9, 0, 0) clash(8, 9, 0) clash(2, 2, 13) -> -5");
        T.test("Promise 16, NONE: either", """
            clash(-1, 0, 0) clash(10, 0, 0) clash(MIN, 0, 0) clash(MAX, 0, 0) -> NONE
            clash(0, -1, 0) clash(0, 10, 0) clash(0, MIN, 0) clash(0, MAX, 0) -> NONE
            """);
        T.test("Promise 16, BAD", THREE + "clash(0, 1, -1) clash(0, 1, 720) clash(0, 0, MIN) clash(0, 0, MAX) -> BAD");
    }

    private static void unlike() {
        T.test("Promise 17, the first DAY that only one of them has", THREE + """
            unlike(0, 1) unlike(1, 0) -> 7
            unlike(2, 9) unlike(9, 2) -> 10
            unlike(0, 9) -> 0
            """);
        T.test("Promise 17, the last DAY", THREE + "copy(0, 9) -> 103\nextra(9, 719)\nunlike(0, 9) unlike(9, 0) -> 719");
        T.test("Promise 17, -5", THREE + """
            unlike(0, 0) unlike(8, 9) -> -5
            copy(2, 9)
            unlike(2, 9) -> -5
            extra(9, 1)
            unlike(2, 9) -> 1
            out(9, 1)
            unlike(2, 9) -> -5
            """);
        T.test("Promise 17, NONE: either", """
            unlike(-1, 0) unlike(10, 0) unlike(MIN, 0) unlike(MAX, 0) -> NONE
            unlike(0, -1) unlike(0, 10) unlike(0, MIN) unlike(0, MAX) -> NONE
            """);
    }

    private static void merged() {
        T.test("Promise 18, the i-th DAY of MERGED", THREE + """
            merged(7, 0) -> 0
            merged(7, 1) -> 7
            merged(7, 2) -> 10
            merged(6, 1) -> 10
            merged(6, 4) -> 14
            merged(4, 2) -> 12
            extra(9, 719)
            merged(516, 3) -> 719
            """);
        T.test("Promise 18, i -1: how many there are", THREE + """
            merged(1, -1) -> 103
            merged(3, -1) -> 143
            merged(4, -1) -> 3
            merged(0, -1) merged(512, -1) -> 0
            rule(9, "e1,0")
            merged(1023, -1) -> 720
            merged(512, 719) -> 719
            """);
        T.test("Promise 18, -5", THREE + """
            merged(4, 3) merged(4, MAX) merged(0, 0) merged(512, 0) merged(1, 103) -> -5
            rule(9, "e1,0")
            merged(512, 720) -> -5
            """);
        T.test("Promise 18, BAD: set (0 .. 1023)", THREE + """
            merged(-1, 0) merged(1024, 0) merged(MIN, -1) merged(MAX, -1) -> BAD
            merged(1023, 0) -> 0
            """);
        T.test("Promise 18, NONE: i below -1", THREE + "merged(1, -2) merged(1, MIN) merged(0, -2) -> NONE");
    }

    private static void whose() {
        T.test("Promise 19, WHOSE the i-th DAY of MERGED is (bits)", THREE + """
            whose(1023, 0) -> 3
            whose(1023, 1) whose(1, 0) -> 1
            whose(1023, 2) -> 4
            whose(2, 0) -> 2
            extra(9, 11)
            whose(516, 1) -> 516
            extra(9, 719)
            whose(512, 1) -> 512
            """);
        T.test("Promise 19, 0: there is none", THREE + "whose(4, 3) whose(4, MAX) whose(0, 0) whose(512, 0) whose(1, 103) -> 0");
        T.test("Promise 19, BAD: set", THREE + "whose(-1, 0) whose(1024, 0) whose(MIN, 0) whose(MAX, 0) -> BAD\nwhose(1023, 0) -> 3");
        T.test("Promise 19, NONE: i below 0", THREE + "whose(1, -1) whose(1, MIN) whose(0, -1) -> NONE");
    }

    private static void busiest() {
        T.test("Promise 20, BUSIEST: which (what 0)", THREE + """
            busiest(0, 719, 0) busiest(0, 0, 0) -> 0
            busiest(1, 719, 0) -> 14
            busiest(1, 13, 0) -> 7
            extra(9, 719)
            busiest(719, 719, 0) busiest(715, 719, 0) -> 719
            """);
        T.test("Promise 20, BUSIEST: which: -5", THREE + "busiest(1, 6, 0) busiest(719, 719, 0) -> -5");
        T.test("Promise 20, BUSIEST: how many (1)", THREE + """
            busiest(0, 719, 1) -> 2
            busiest(1, 13, 1) -> 1
            extra(9, 0)
            busiest(0, 719, 1) -> 3
            """);
        T.test("Promise 20, BUSIEST: how many: 0", THREE + "busiest(1, 6, 1) busiest(719, 719, 1) -> 0");
        T.test("Promise 20, BAD: from", """
            busiest(-1, 719, 0) busiest(720, 720, 0) busiest(MIN, 719, 1) busiest(MAX, MAX, 1) busiest(-1, -1, 0) -> BAD
            """);
        T.test("Promise 20, BAD: to", """
            busiest(0, 720, 0) busiest(719, 720, 1) busiest(0, MAX, 0) busiest(0, -1, 0) busiest(0, MIN, 1) -> BAD
            """);
        T.test("Promise 20, BAD: to is below from", "busiest(5, 4, 0) busiest(1, 0, 1) busiest(719, 718, 0) -> BAD");
        T.test("Promise 20, NONE: what", THREE
            + "busiest(0, 719, 2) busiest(0, 719, -1) busiest(0, 719, MIN) busiest(0, 719, MAX) -> NONE");
    }

    private static void free() {
        T.test("Promise 21, the first DAY from one on with which n DAYS begin that none has", THREE + """
            free(1, 0, 1) free(1, 0, 6) free(1, 1, 6) -> 1
            free(1, 2, 6) -> 8
            free(1, 2, 5) -> 2
            free(5, 8, 1) -> 8
            free(5, 8, 3) -> 15
            """);
        T.test("Promise 21, n DAYS (1 .. 99)", THREE + """
            free(0, 0, 1) free(0, 0, 99) -> 0
            rule(3, "r0,9|r108,109|r209,719")
            free(8, 0, 99) -> 110
            free(8, 0, 98) -> 10
            free(8, 0, 1) -> 10
            """);
        T.test("Promise 21, one behind the other: up to DAY 719 and no further", THREE + """
            free(0, 621, 99) -> 621
            free(0, 622, 99) -> -5
            free(1, 715, 5) -> 715
            free(1, 715, 6) free(1, 719, 2) -> -5
            free(0, 719, 1) free(1, 719, 1) -> 719
            """);
        T.test("Promise 21, of a set of NAMES (bits)", THREE + """
            free(2, 0, 2) -> 1
            free(7, 8, 2) free(5, 8, 2) -> 8
            free(4, 10, 1) -> 13
            extra(9, 13)
            free(516, 10, 1) -> 14
            free(512, 10, 3) -> 10
            free(512, 10, 4) -> 14
            """);
        T.test("Promise 21, -5", THREE + """
            free(1, 0, 7) -> -5
            rule(9, "e1,0")
            free(512, 0, 1) free(1023, 0, 1) -> -5
            out(9, 719)
            free(512, 0, 1) -> 719
            """);
        T.test("Promise 21, BAD: set", "free(-1, 0, 1) free(1024, 0, 1) free(MIN, 0, 1) free(MAX, 0, 1) -> BAD\nfree(1023, 0, 1) -> 0");
        T.test("Promise 21, BAD: day", "free(1, -1, 1) free(1, 720, 1) free(0, MIN, 1) free(0, MAX, 1) -> BAD");
        T.test("Promise 21, BAD: n", "free(1, 0, 0) free(1, 0, -1) free(1, 0, 100) free(1, 0, MIN) free(0, 0, MAX) -> BAD");
    }

    private static void parts() {
        T.test("Promise 22, how many of its DAYS are in the i-th week (block 0)", THREE + """
            parts(2, 0, 1) -> 3
            parts(2, 0, 0) parts(2, 0, 2) parts(9, 0, 0) -> 0
            parts(0, 0, 102) parts(1, 0, 0) -> 1
            """);
        T.test("Promise 22, how many of its DAYS are in the i-th month (block 1)", THREE + """
            parts(1, 1, 0) parts(1, 1, 23) -> 2
            parts(0, 1, 0) -> 5
            parts(0, 1, 2) parts(0, 1, 23) -> 4
            parts(2, 1, 1) -> 0
            """);
        T.test("Promise 22, how many of its DAYS are in the i-th year (block 2)", THREE + """
            parts(1, 2, 0) parts(1, 2, 1) -> 24
            parts(0, 2, 0) -> 52
            parts(0, 2, 1) -> 51
            parts(2, 2, 1) -> 0
            """);
        T.test("Promise 22, NONE: name", "parts(-1, 0, 0) parts(10, 0, 0) parts(MIN, 0, 0) parts(MAX, 0, 0) -> NONE");
        T.test("Promise 22, NONE: block", "parts(0, -1, 0) parts(0, 3, 0) parts(0, MIN, 0) parts(0, MAX, 0) -> NONE");
        T.test("Promise 22, NONE: i of weeks (0 .. 102)", """
            parts(0, 0, -1) parts(0, 0, 103) parts(0, 0, MIN) parts(0, 0, MAX) parts(0, 0, 613566757) -> NONE
            parts(0, 0, 1073741824) -> NONE
            parts(0, 0, 0) parts(0, 0, 102) -> 0
            """);
        T.test("Promise 22, NONE: i of months (0 .. 23)", """
            parts(0, 1, -1) parts(0, 1, 24) parts(0, 1, 102) parts(0, 1, MIN) parts(0, 1, MAX) parts(0, 1, 143165577) -> NONE
            parts(0, 1, 0) parts(0, 1, 23) -> 0
            """);
        T.test("Promise 22, NONE: i of years (0 .. 1)", """
            parts(0, 2, -1) parts(0, 2, 2) parts(0, 2, 23) parts(0, 2, MIN) parts(0, 2, MAX) parts(0, 2, 536870912) -> NONE
            parts(0, 2, 0) parts(0, 2, 1) -> 0
            """);
    }

    private static void nth() {
        T.test("Promise 23, the k-th (0 the first) of its DAYS in the BLOCK of a DAY", THREE + """
            nth(2, 0, 0, 7) nth(2, 0, 0, 13) nth(2, 1, 0, 29) nth(2, 2, 0, 359) -> 10
            nth(2, 0, 2, 8) nth(2, 1, 2, 0) -> 12
            nth(0, 1, 0, 59) -> 35
            nth(0, 1, 1, 30) -> 42
            nth(0, 2, 0, 719) -> 364
            nth(0, 0, 0, 719) -> 714
            """);
        T.test("Promise 23, the k-th below 0 from the end", THREE + """
            nth(2, 0, -1, 7) nth(2, 1, -1, 0) nth(2, 2, -1, 0) -> 12
            nth(2, 0, -3, 13) -> 10
            nth(0, 1, -1, 30) -> 56
            nth(0, 1, -4, 30) -> 35
            nth(0, 2, -1, 0) -> 357
            nth(0, 2, -52, 0) -> 0
            nth(0, 0, -1, 719) -> 714
            """);
        T.test("Promise 23, -5", THREE + """
            nth(2, 0, 3, 7) nth(2, 0, -4, 7) nth(2, 0, 0, 6) nth(2, 0, -1, 14) nth(9, 2, 0, 0) -> -5
            nth(0, 1, 4, 30) nth(0, 1, -5, 30) nth(0, 1, MAX, 30) nth(0, 1, MIN, 30) nth(0, 2, 52, 0) nth(0, 2, -53, 0) -> -5
            """);
        T.test("Promise 23, NONE: name", "nth(-1, 0, 0, 0) nth(10, 0, 0, 0) nth(MIN, 0, 0, 0) nth(MAX, 0, 0, 0) -> NONE");
        T.test("Promise 23, NONE: block", "nth(0, -1, 0, 0) nth(0, 3, 0, 0) nth(0, MIN, 0, 0) nth(0, MAX, 0, 0) -> NONE");
        T.test("Promise 23, BAD: day", "nth(0, 0, 0, -1) nth(0, 0, 0, 720) nth(0, 1, 0, MIN) nth(0, 2, 0, MAX) -> BAD");
    }

    private static void told() {
        T.test("Promise 24, what 0 how many NAMES have a RULE", THREE + """
            extra(8, 1)
            told(0) -> 3
            rule(9, "w0&w1")
            told(0) -> 4
            rule(9, "w7")
            told(0) -> 4
            drop(0)
            told(0) -> 3
            """ + Sentences.each(0, 9, name -> "copy(1, " + name + ") -> 48") + "told(0) -> 10");
        T.test("Promise 24, what 1 HITS and 2 MISSES", THREE + """
            count(0, 0, 1) count(0, 0, 1) count(0, 0, 2) count(0, 0, 1) count(0, 1, 0)
            told(1) told(2) -> 2
            count(0, 0, 3)
            told(1) -> 2
            told(2) -> 3
            """);
        T.test("Promise 24, what 3 how many SPANS are REMEMBERED", THREE + "told(3) -> 0\n" + Sentences.each(1, 6, i -> "count(0, 1, "
            + i
            + ") -> 0\ntold(3) -> " + i) + """
            count(1, 1, 7)
            told(3) -> 6
            drop(0)
            told(3) -> 1
            """);
        T.test("Promise 24, what 4 bytes of THE TAPE", "told(4) -> 0\ntape(\"w0|w\")\ntold(4) -> 4\nclear()\ntold(4) -> 0");
        T.test("Promise 24, what 5 DAYS OUT of all NAMES", """
            out(0, 1) out(9, 1) out(0, 719)
            told(5) -> 3
            out(9, 1)
            told(5) -> 2
            told(6) -> 0
            """);
        T.test("Promise 24, what 5 DAYS OUT of all NAMES: 70 at most", Sentences.each(0, 69, i -> "out(" + i / 7 + ", " + i % 7
            + ") -> "
            + (i % 7 + 1)) + "told(5) -> 70\ntold(6) -> 0");
        T.test("Promise 24, what 6 EXTRA ones", """
            extra(3, 1) extra(9, 1) extra(4, 2) extra(4, 3)
            told(6) -> 4
            extra(3, 1)
            told(6) -> 3
            told(5) -> 0
            """);
        T.test("Promise 24, what 6 EXTRA ones: 70 at most", Sentences.each(0, 69, i -> "extra(" + i / 7 + ", " + i % 7 + ") -> "
            + (i % 7 + 1))
            + "told(6) -> 70\ntold(5) -> 0");
        T.test("Promise 24, NONE", "told(-1) told(7) told(MIN) told(MAX) -> NONE");
    }

    private static void remembered() {
        String two = THREE + "count(0, 7, 14) -> 2\ncount(2, 11, 719) -> 2\n";
        T.test("Promise 25, of the i-th SPAN that is REMEMBERED (0 the eldest) what 0 its NAME", two
            + "remembered(0, 0) -> 0\nremembered(1, 0) -> 2");
        T.test("Promise 25, what 1 and 2 its DAYS", two + """
            remembered(0, 1) -> 7
            remembered(0, 2) -> 14
            remembered(1, 1) -> 11
            remembered(1, 2) -> 719
            """);
        T.test("Promise 25, what 3 how many", two + """
            remembered(0, 3) remembered(1, 3) -> 2
            count(0, 0, 719) -> 103
            remembered(2, 3) -> 103
            count(9, 0, 719)
            remembered(3, 3) -> 0
            """);
        T.test("Promise 25, NONE: i", "remembered(0, 0) -> NONE\n" + two
            + "remembered(-1, 0) remembered(2, 0) remembered(5, 0) remembered(6, 0) remembered(MIN, 0) remembered(MAX, 0) -> NONE");
        T.test("Promise 25, NONE: i behind 6", Sentences.each(0, 5, i -> "count(0, 0, " + i + ") -> 0") + """
            remembered(5, 2) -> 5
            remembered(6, 2) -> NONE
            count(0, 0, 6)
            remembered(5, 2) -> 6
            remembered(6, 2) -> NONE
            """);
        T.test("Promise 25, NONE: what", two + "remembered(0, -1) remembered(0, 4) remembered(1, MIN) remembered(1, MAX) -> NONE");
    }

    private static void list() {
        T.test("Promise 26, a LIST becomes a row of n ints: 1", """
            list(0, 2) -> 1
            get(0, 1) -> 0
            get(0, 2) -> NO_PLACE
            list(0, 4) -> 1
            get(0, 3) -> 0
            get(0, 4) -> NO_PLACE
            list(0, 1) -> 1
            get(0, 1) -> NO_PLACE
            """);
        T.test("Promise 26, all 0", "list(3, 30)\n" + Sentences.each(0, 29, i -> "get(3, " + i + ") -> 0\nput(3, " + i + ", 7)") + """
            list(3, 2)
            list(3, 30) -> 1
            """ + Sentences.each(0, 29, i -> "get(3, " + i + ") -> 0"));
        T.test("Promise 26, a row of none, and of 30", """
            list(0, 0) list(1, 30) -> 1
            put(0, 0, 1) -> BEYOND
            put(1, 29, 1) -> 1
            put(1, 30, 1) -> BEYOND
            """);
        T.test("Promise 26, NONE: list", "list(-1, 1) list(4, 1) list(MIN, 1) list(MAX, 1) -> NONE");
        T.test("Promise 26, BAD: n above 30", "list(0, 31) list(0, 32) list(0, MAX) -> BAD\nput(0, 0, 1) -> NOTHING");
        T.test("Promise 26, BELOW", "list(0, -1) list(0, -2) list(0, MIN) -> BELOW\nput(0, 0, 1) -> NOTHING");
    }

    private static void put() {
        T.test("Promise 27, place i of a LIST becomes v: 1", LISTS + "put(0, 0, 8) put(0, 4, -9) put(0, 2, MIN) -> 1\n"
            + holds(0, 8, 2, Integer.MIN_VALUE, 4, -9) + holds(1, 0, 0, 0));
        T.test("Promise 27, NONE", LISTS + "put(-1, 0, 1) put(4, 0, 1) put(MIN, 0, 1) put(MAX, 0, 1) -> NONE");
        T.test("Promise 27, NOTHING", LISTS + "put(3, 0, 1) -> NOTHING\nget(3, 0) -> NO_PLACE");
        T.test("Promise 27, BEYOND", LISTS + """
            put(0, -1, 9) put(0, 5, 9) put(0, 30, 9) put(0, MIN, 9) put(0, MAX, 9) put(2, 0, 9) -> BEYOND
            """ + holds(0, 1, 2, 3, 4, 5));
    }

    private static void get() {
        T.test("Promise 28, place i of a LIST", LISTS + holds(0, 1, 2, 3, 4, 5) + holds(1, 0, 0, 0));
        T.test("Promise 28, -2000000000: no such LIST", LISTS + "get(-1, 0) get(4, 0) get(MIN, 0) get(MAX, 0) -> -2000000000");
        T.test("Promise 28, -2000000000: nothing there", LISTS + "get(3, 0) get(3, -1) -> -2000000000");
        T.test("Promise 28, -2000000000: no such place", LISTS
            + "get(0, -1) get(0, 5) get(0, 30) get(0, MIN) get(0, MAX) get(2, 0) -> -2000000000");
    }

    private static void move() {
        T.test("Promise 29, n places of a LIST from i on come to another one from j on: n", LISTS + "move(0, 2, 1, 1, 2) -> 2\n"
            + holds(1, 0, 3, 4) + holds(0, 1, 2, 3, 4, 5)
            + "move(0, 0, 1, 0, 3) -> 3\n" + holds(1, 1, 2, 3) + "put(1, 0, 9)\nmove(1, 0, 0, 4, 1) -> 1\n" + holds(0, 1, 2, 3, 4, 9));
        T.test("Promise 29, all of a row of 30", "list(0, 30) list(3, 30)\n" + Sentences.each(0, 29, i -> "put(0, " + i + ", "
            + (i - 7) + ") -> 1")
            + "move(0, 0, 3, 0, 30) -> 30\n" + Sentences.each(0, 29, i -> "get(3, " + i + ") -> " + (i - 7)));
        T.test("Promise 29, or the same, as they all were before: to later places", LISTS + "move(0, 0, 0, 1, 4) -> 4\n"
            + holds(0, 1, 1, 2, 3, 4));
        T.test("Promise 29, or the same, as they all were before: to earlier places", LISTS + "move(0, 1, 0, 0, 4) -> 4\n"
            + holds(0, 2, 3, 4, 5, 5) + "move(0, 0, 0, 0, 5) -> 5\n" + holds(0, 2, 3, 4, 5, 5));
        T.test("Promise 29, n 0: no place, also at the ends", LISTS + """
            move(0, 0, 1, 0, 0) move(0, 5, 1, 3, 0) move(2, 0, 2, 0, 0) move(2, 0, 0, 5, 0) -> 0
            """ + holds(0, 1, 2, 3, 4, 5));
        T.test("Promise 29, NONE: lists", LISTS + """
            move(-1, 0, 0, 0, 1) move(4, 0, 0, 0, 1) move(MIN, 0, 0, 0, 1) move(MAX, 0, 0, 0, 1) -> NONE
            move(0, 0, -1, 0, 1) move(0, 0, 4, 0, 1) move(0, 0, MIN, 0, 1) move(0, 0, MAX, 0, 1) -> NONE
            """);
        T.test("Promise 29, NOTHING: in either", LISTS + "move(3, 0, 0, 0, 1) move(0, 0, 3, 0, 1) move(3, 0, 3, 0, 0) -> NOTHING");
        T.test("Promise 29, BEYOND: n, i or j is below 0", LISTS + """
            move(0, 0, 1, 0, -1) move(0, -1, 1, 0, 1) move(0, 0, 1, -1, 1) move(0, -1, 1, 0, 0) move(0, 0, 1, -1, 0) -> BEYOND
            move(0, 0, 1, 0, MIN) move(0, MIN, 1, 0, 1) move(0, 0, 1, MIN, 1) move(0, MIN, 1, MIN, MIN) -> BEYOND
            move(0, 2, 1, 2, -2) -> BEYOND
            """ + holds(1, 0, 0, 0));
        T.test("Promise 29, BEYOND: beyond the first one's end", LISTS + """
            move(0, 5, 1, 0, 1) move(0, 3, 1, 0, 3) move(0, 6, 1, 0, 0) move(1, 0, 0, 0, 4) move(2, 0, 0, 0, 1) -> BEYOND
            move(0, MAX, 1, 0, 1) move(0, 1, 1, 0, MAX) move(0, MAX, 1, 0, MAX) -> BEYOND
            """ + holds(0, 1, 2, 3, 4, 5) + holds(1, 0, 0, 0));
        T.test("Promise 29, BEYOND: beyond the other one's end", LISTS + """
            move(0, 0, 1, 3, 1) move(0, 0, 1, 1, 3) move(0, 0, 1, 4, 0) move(0, 0, 1, 0, 4) move(0, 0, 2, 0, 1) -> BEYOND
            move(0, 0, 1, MAX, 1) move(0, 0, 1, MAX, 0) move(0, 0, 1, MAX, MAX) -> BEYOND
            """ + holds(1, 0, 0, 0));
    }

    /** What promises 30 and 31 refuse alike. */
    private static void refusesPlaces(String promise, String call) {
        String p = "Promise " + promise + ", ";
        String before = THREE + LISTS;
        T.test(p + "NONE: list", before
            + "lay(-1, 0, 0, 0) lay(4, 0, 0, 0) lay(MIN, 0, 0, 0) lay(MAX, 0, 0, 0) -> NONE".replace("lay", call));
        T.test(p + "NONE: name", before
            + "lay(0, 0, -1, 0) lay(0, 0, 10, 0) lay(0, 0, MIN, 0) lay(0, 0, MAX, 0) -> NONE".replace("lay", call));
        T.test(p + "BAD: day", before
            + "lay(0, 0, 0, -1) lay(0, 0, 0, 720) lay(0, 0, 0, MIN) lay(0, 0, 0, MAX) -> BAD".replace("lay", call));
        T.test(p + "NOTHING", before + "lay(3, 0, 0, 0) lay(3, 0, 9, 719) -> NOTHING".replace("lay", call));
        T.test(p + "BEYOND: i is below 0", before + """
            lay(0, -1, 0, 0) lay(0, MIN, 0, 0) lay(2, -1, 9, 0) -> BEYOND
            """.replace("lay", call) + holds(0, 1, 2, 3, 4, 5));
        T.test(p + "BEYOND: or above how many places it has", before + """
            lay(0, 6, 0, 0) lay(0, 30, 0, 0) lay(0, MAX, 0, 0) lay(1, 4, 9, 0) lay(2, 1, 0, 0) -> BEYOND
            """.replace("lay", call) + holds(0, 1, 2, 3, 4, 5));
    }

    private static void lay() {
        String before = THREE + LISTS;
        refusesPlaces("30", "lay");
        T.test("Promise 30, DAYS of a NAME are LAID into a LIST from place i on", before + "lay(0, 1, 2, 11) -> 2\n"
            + holds(0, 1, 11, 12, 4, 5) + "lay(0, 3, 0, 1) -> 2\n" + holds(0, 1, 11, 12, 7, 14));
        T.test("Promise 30, how many were", before + """
            lay(0, 0, 2, 0) lay(1, 0, 0, 0) -> 3
            lay(0, 0, 0, 0) -> 5
            lay(0, 0, 0, 714) lay(0, 4, 0, 0) lay(0, 0, 2, 12) -> 1
            lay(0, 0, 9, 0) lay(0, 0, 2, 13) -> 0
            """);
        T.test("Promise 30, the last DAY of all", """
            extra(0, 719)
            list(0, 2)
            lay(0, 0, 0, 0) lay(0, 1, 0, 719) -> 1
            """ + holds(0, 719, 719));
        T.test("Promise 30, i at the end: none", before + "lay(0, 5, 0, 0) lay(1, 3, 0, 0) lay(2, 0, 0, 0) -> 0\n"
            + holds(0, 1, 2, 3, 4, 5));
    }

    private static void judge() {
        String before = THREE + LISTS;
        refusesPlaces("31", "judge");
        T.test("Promise 31, JUDGED by a LIST", before + """
            judge(0, 0, 2, 0) -> 0
            put(0, 1, 11) put(0, 2, 12)
            judge(0, 1, 2, 11) -> 2
            put(0, 3, -1)
            judge(0, 1, 2, 11) -> 3
            put(0, 4, -1)
            judge(0, 1, 2, 11) -> -5
            judge(0, 1, 2, 10) judge(0, 1, 2, 12) -> 0
            """);
        T.test("Promise 31, DAY 0 is a DAY, -1 none", before + """
            judge(1, 0, 0, 0) -> 1
            put(1, 1, 7) put(1, 2, 14)
            judge(1, 0, 0, 0) -> -5
            put(1, 0, -1)
            judge(1, 0, 0, 0) -> 0
            judge(1, 0, 9, 0) -> 1
            """);
        T.test("Promise 31, i at the end: none", before + "judge(0, 5, 0, 0) judge(1, 3, 0, 0) judge(2, 0, 0, 0) -> -5");
        T.test("Promise 31, what was LAID is as it is JUDGED", before + """
            lay(0, 1, 1, 3)
            judge(0, 1, 1, 3) -> -5
            extra(1, 719)
            judge(0, 1, 1, 3) -> -5
            out(1, 44)
            judge(0, 1, 1, 3) -> 2
            """);
    }

    private static void image() {
        T.test("Promise 32, how many NAMES have a RULE", """
            extra(5, 5)
            image() -> 0
            rule(0, "w0")
            rule(1, "w0&w1")
            image() -> 2
            drop(0)
            image() -> 1
            """ + Sentences.each(0, 9, name -> "copy(1, " + name + ") -> 0") + "image() -> 10");
        T.test("Promise 32, THE IMAGE is taken: all else stays", THREE + """
            count(0, 0, 50) -> 8
            tape("w")
            out(0, 0)
            count(1, 0, 50)
            image() -> 3
            told(0) -> 3
            told(2) -> 2
            told(3) told(4) told(5) -> 1
            at(0, 0) -> 7
            """);
        T.test("Promise 32, a later one is in its place", THREE + """
            image() -> 3
            rule(0, "w1")
            drop(2)
            image() -> 2
            drop(0)
            undo() -> 2
            at(0, 0) -> 1
            drop(2) -> STATE
            """);
    }

    private static void undo() {
        String changed = THREE + """
            out(0, 7)
            extra(3, 8)
            image() -> 3
            rule(0, "w1")
            rule(4, "w2")
            drop(1)
            out(0, 7)
            out(0, 14)
            extra(3, 8)
            extra(4, 9)
            """;
        T.test("Promise 33, all is as THE IMAGE", changed + """
            undo() -> 3
            at(0, 0) -> 0
            at(0, 1) -> 14
            count(1, 0, 719) -> 48
            at(3, 0) -> 8
            at(4, 0) -> NO_DAY
            told(5) told(6) -> 1
            drop(4) -> STATE
            drop(2) -> 3
            """);
        T.test("Promise 33, all is as THE IMAGE: of an object without anything", "image() -> 0\n" + THREE + """
            out(0, 7) extra(9, 9)
            undo() told(0) told(5) told(6) -> 0
            merged(1023, -1) -> 0
            """);
        T.test("Promise 33, all is as THE IMAGE: each NAME", Sentences.eachName("""
            rule(NAME, "r5,6") -> 2
            out(NAME, 5) extra(NAME, 9) -> 1
            """) + "image() -> 10\n" + Sentences.eachName("""
            drop(NAME) -> 2
            out(NAME, 5) extra(NAME, 9) -> 0
            """) + "undo() -> 10\n" + Sentences.eachName("""
            at(NAME, 0) -> 6
            at(NAME, 1) at(NAME, -1) -> 9
            """));
        T.test("Promise 33, nothing is REMEMBERED", THREE + """
            count(0, 0, 50) count(1, 0, 50)
            image() -> 3
            count(0, 0, 60)
            undo() -> 3
            told(3) -> 0
            remembered(0, 0) -> NONE
            told(2) -> 3
            count(0, 0, 50) -> 8
            told(1) -> 0
            told(2) -> 4
            """);
        T.test("Promise 33, how many NAMES have a RULE", "rule(5, \"w0&w1\")\nimage() -> 1\n" + THREE
            + "undo() undo() -> 1\ntold(0) -> 1");
        T.test("Promise 33, THE IMAGE stays: a second time", changed + """
            undo() -> 3
            drop(0)
            out(0, 7)
            extra(9, 0)
            undo() -> 3
            at(0, 1) -> 14
            has(9, 0) -> 0
            told(5) told(6) -> 1
            """);
        T.test("Promise 33, THE IMAGE is as it was taken, though NAMES change", THREE + """
            image() -> 3
            undo() -> 3
            out(0, 0) extra(0, 1)
            rule(2, "r1,1")
            undo() -> 3
            at(0, 0) -> 0
            at(2, 0) -> 10
            told(5) told(6) -> 0
            """);
        T.test("Promise 33, STATE: there is none", THREE + "undo() -> STATE\nat(0, 0) -> 0\nimage() -> 3\nundo() -> 3");
    }
}
