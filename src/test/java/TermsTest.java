/** The Terms 1 to 4, but for the RULE as a text (RuleTextTest): a test for each sentence. */
public final class TermsTest {
    private static final Sentences T = new Sentences();

    /** A: WEEKDAY 0 (103 DAYS), B: DATES 1 and 15 (48), C: 10 to 12. */
    private static final String THREE = """
        rule(0, "w0")
        rule(1, "d1|d15")
        rule(2, "r10,12")
        """;
    /** Six SPANS of A are REMEMBERED, from DAY 0 to 5 on, the eldest first. */
    private static final String SIX_SPANS = THREE + """
        count(0, 0, 100) -> 15
        count(0, 1, 100) count(0, 2, 100) count(0, 3, 100) count(0, 4, 100) count(0, 5, 100) -> 14
        """;

    public static void main(String[] args) {
        calls();
        days();
        calendar();
        blocks();
        names();
        outAndExtra();
        tape();
        gap();
        period();
        mergedAndWhose();
        busiest();
        remembered();
        forgotten();
        lists();
        laid();
        judged();
        image();
        T.end("TermsTest", "Term", 4);
    }

    private static void calls() {
        T.test("What it is, an object is used for at most 512 calls: the 512th is as the first",
            Sentences.each(1, 255, i -> "out(9, 5) -> 1\nout(9, 5) -> 0") + "extra(9, 5) -> 1\nat(9, -1) -> 5",
            "rule(0, \"w0\")\n" + Sentences.each(4, 511, i -> "count(0, " + i + ", 719)") + "told(2) -> 508",
            Sentences.each(1, 170, i -> "rule(0, \"A\") -> 0\nout(0, 719) -> " + i % 2) + "next(0, 0) -> NO_DAY\nclear() -> 0");
    }

    private static void days() {
        T.test("Term 1, DAYS are 0 .. 719", """
            extra(0, 0) -> 1
            extra(0, 719) -> 2
            has(0, 0) has(0, 719) -> 1
            at(0, 0) next(0, 0) ahead(0, 718) -> 0
            at(0, -1) next(0, 1) ahead(0, 719) -> 719
            gap(0) -> 718
            gap(1) -> 720
            rule(1, "!A") -> 718
            rule(1, "e1,0") -> 720
            count(1, 0, 719) -> 720
            """);
        T.test("Term 1, DAYS are 0 .. 719: -1 and 720 are none", Sentences.each(0, 1, i -> """
            out(0, DAY) extra(0, DAY) has(0, DAY) next(0, DAY) ahead(0, DAY) count(0, DAY, 719) count(0, 0, DAY) -> BAD
            clash(0, 1, DAY) busiest(DAY, 719, 0) busiest(0, DAY, 0) free(0, DAY, 1) nth(0, 0, 0, DAY) -> BAD
            lay(0, 0, 0, DAY) judge(0, 0, 0, DAY) -> BAD
            """.replace("DAY", i == 0 ? "-1" : "720")));
    }

    private static void calendar() {
        T.test("Term 1, the WEEKDAY of a DAY d is d modulo 7", """
            rule(0, "w6") -> 102
            at(0, 0) -> 6
            at(0, 1) -> 13
            at(0, -1) -> 713
            rule(0, "w5") -> 103
            at(0, -1) -> 719
            rule(0, "w0") -> 103
            has(0, 0) has(0, 7) has(0, 714) -> 1
            has(0, 6) has(0, 8) has(0, 713) has(0, 719) -> 0
            """);
        T.test("Term 1, its MONTH 1 plus (d over 30, cut) modulo 12", """
            rule(0, "m1") -> 60
            has(0, 0) has(0, 29) has(0, 360) has(0, 389) -> 1
            has(0, 30) has(0, 359) has(0, 390) has(0, 719) -> 0
            rule(0, "m2") -> 60
            has(0, 30) has(0, 59) has(0, 390) has(0, 419) -> 1
            has(0, 29) has(0, 60) has(0, 389) has(0, 420) -> 0
            rule(0, "m12") -> 60
            has(0, 330) has(0, 359) has(0, 690) has(0, 719) -> 1
            has(0, 0) has(0, 329) has(0, 360) has(0, 689) -> 0
            """);
        T.test("Term 1, its DATE 1 plus d modulo 30", """
            rule(0, "d1") -> 24
            has(0, 0) has(0, 30) has(0, 360) has(0, 690) -> 1
            has(0, 1) has(0, 29) has(0, 31) has(0, 719) -> 0
            rule(0, "d30") -> 24
            has(0, 29) has(0, 59) has(0, 719) -> 1
            has(0, 28) has(0, 30) has(0, 718) -> 0
            """);
        T.test("Term 1, its YEAR d over 360, cut", """
            rule(0, "y0") -> 360
            has(0, 0) has(0, 359) -> 1
            has(0, 360) has(0, 719) -> 0
            rule(0, "y1") -> 360
            has(0, 360) has(0, 719) -> 1
            has(0, 0) has(0, 359) -> 0
            """);
    }

    private static void blocks() {
        String all = "rule(0, \"e1,0\")\n";
        T.test("Term 1, BLOCKS: a week (DAYS of one WEEK, d over 7, cut)", all + """
            parts(0, 0, 0) parts(0, 0, 101) -> 7
            nth(0, 0, 0, 0) nth(0, 0, 0, 6) -> 0
            nth(0, 0, -1, 0) nth(0, 0, -1, 6) nth(0, 0, 6, 3) -> 6
            nth(0, 0, 0, 7) nth(0, 0, 0, 13) -> 7
            nth(0, 0, -1, 713) -> 713
            """);
        T.test("Term 1, BLOCKS: the last week has six DAYS", all + """
            parts(0, 0, 102) -> 6
            nth(0, 0, 0, 714) nth(0, 0, 0, 719) nth(0, 0, -6, 719) -> 714
            nth(0, 0, -1, 714) nth(0, 0, 5, 714) -> 719
            nth(0, 0, 6, 719) nth(0, 0, -7, 719) -> NO_DAY
            rule(1, "n6w(e1,714)|l6w(e1,714)") -> 2
            at(1, 0) -> 714
            at(1, 1) -> 719
            rule(1, "n7w(e1,714)|l7w(e1,714)") -> 0
            """);
        T.test("Term 1, BLOCKS: a month (30 from 30 times any number on)", all + """
            parts(0, 1, 0) parts(0, 1, 11) parts(0, 1, 12) parts(0, 1, 23) -> 30
            nth(0, 1, 0, 29) -> 0
            nth(0, 1, -1, 0) -> 29
            nth(0, 1, 0, 30) -> 30
            nth(0, 1, 0, 359) -> 330
            nth(0, 1, 0, 360) -> 360
            nth(0, 1, 29, 690) nth(0, 1, -1, 719) -> 719
            nth(0, 1, 30, 690) -> NO_DAY
            """);
        T.test("Term 1, BLOCKS: a month of each YEAR is one of its own", """
            rule(0, "r5,6|r365,366") -> 4
            nth(0, 1, 2, 5) nth(0, 1, -3, 365) -> NO_DAY
            parts(0, 1, 0) parts(0, 1, 12) -> 2
            """);
        T.test("Term 1, BLOCKS: a year (360 likewise)", all + """
            parts(0, 2, 0) parts(0, 2, 1) -> 360
            nth(0, 2, 0, 359) -> 0
            nth(0, 2, -1, 0) nth(0, 2, 359, 0) -> 359
            nth(0, 2, 0, 360) nth(0, 2, 0, 719) -> 360
            nth(0, 2, -1, 360) -> 719
            nth(0, 2, 360, 0) -> NO_DAY
            """);
    }

    private static void names() {
        T.test("Term 1, NAMES are 0 .. 9", Sentences.eachName("""
            extra(NAME, NAME) -> 1
            rule(NAME, "e700,NAME") -> 2
            has(NAME, NAME) -> 1
            """) + "told(0) -> 10\nmerged(1023, -1) -> 20");
        T.test("Term 1, NAMES are 0 .. 9: -1 and 10 are none", Sentences.each(0, 1, i -> """
            rule(NAME) drop(NAME) copy(NAME, 0) copy(0, NAME) out(NAME, 0) extra(NAME, 0) has(NAME, 0) next(NAME, 0) -> NONE
            ahead(NAME, 0) at(NAME, 0) count(NAME, 0, 1) gap(NAME) period(NAME) clash(NAME, 0, 0) clash(0, NAME, 0) -> NONE
            unlike(NAME, 0) unlike(0, NAME) parts(NAME, 0, 0) nth(NAME, 0, 0, 0) lay(0, 0, NAME, 0) judge(0, 0, NAME, 0) -> NONE
            """.replace("NAME", i == 0 ? "-1" : "10")));
        T.test("Term 1, each has a RULE, or none", """
            told(0) -> 0
            drop(0) drop(9) -> STATE
            rule(9, "r5,5") -> 1
            told(0) -> 1
            drop(0) -> STATE
            drop(9) -> 1
            told(0) -> 0
            """);
        T.test("Term 1, a RULE (a set of DAYS) without one is a RULE, too", """
            rule(0, "w0&w1") -> 0
            told(0) -> 1
            copy(0, 1) -> 0
            told(0) -> 2
            drop(0) drop(1) -> 0
            drop(0) drop(1) -> STATE
            """);
    }

    private static void outAndExtra() {
        T.test("Term 1, DAYS left OUT and EXTRA ones: none at first", """
            told(5) told(6) -> 0
            out(0, 0) out(9, 719) extra(0, 0) extra(9, 719) -> 1
            """);
        T.test("Term 1, DAYS left OUT and EXTRA ones: 7 at most each",
            Sentences.each(1, 7, i -> "out(0, " + i + ") extra(0, " + (700 + i) + ") -> " + i) + """
            out(0, 8) extra(0, 708) out(0, 701) extra(0, 1) -> FULL
            told(5) told(6) -> 7
            out(1, 1) extra(1, 1) -> 1
            """);
        T.test("Term 1, DAYS of a NAME: those of its RULE (none without one)", """
            at(0, 0) -> NO_DAY
            rule(0, "r5,6") -> 2
            at(0, 0) -> 5
            at(0, 1) -> 6
            drop(0) -> 2
            at(0, 0) -> NO_DAY
            """);
        T.test("Term 1, DAYS of a NAME: and EXTRA ones, each once", """
            rule(0, "r5,6") -> 2
            extra(0, 6) -> 1
            extra(0, 4) -> 2
            count(0, 0, 719) -> 3
            at(0, 0) -> 4
            extra(0, 6) -> 1
            has(0, 6) -> 1
            """);
        T.test("Term 1, DAYS of a NAME: without those OUT", """
            rule(0, "r5,6") -> 2
            out(0, 5) -> 1
            out(0, 9) -> 2
            at(0, 0) at(0, -1) -> 6
            rule(0, "r5,9") -> 5
            at(0, 0) -> 6
            at(0, -1) -> 8
            """);
        T.test("Term 1, DAYS of a NAME: an EXTRA one that is OUT, too, is none", """
            extra(0, 50) out(0, 50) -> 1
            has(0, 50) -> 0
            out(1, 50) extra(1, 50) -> 1
            has(1, 50) -> 0
            rule(1, "r50,51") -> 2
            at(1, 0) -> 51
            out(1, 50) -> 0
            at(1, 0) -> 50
            """);
    }

    private static void tape() {
        T.test("Term 2, THE TAPE holds 0 .. 80 bytes", "told(4) -> 0\n" + Sentences.each(1, 80, i -> "feed(119) -> " + i) + """
            told(4) -> 80
            feed(119) -> FULL
            told(4) -> 80
            clear() -> 80
            told(4) clear() -> 0
            """);
    }

    private static void gap() {
        T.test("Term 3, GAP: the greatest number of DAYS none of which is its: between two", THREE + """
            gap(0) -> 6
            rule(3, "r0,5|r20,30|r36,719") -> 701
            gap(3) -> 14
            rule(3, "r0,5|r11,30|r45,719")
            gap(3) -> 14
            """);
        T.test("Term 3, GAP: before the first", """
            rule(0, "r600,719") -> 120
            gap(0) -> 600
            rule(0, "r1,719") -> 719
            gap(0) -> 1
            """);
        T.test("Term 3, GAP: behind the last", THREE + """
            gap(2) -> 707
            rule(3, "r0,718") -> 719
            gap(3) -> 1
            """);
        T.test("Term 3, GAP: 720 of one without DAYS", "gap(0) -> 720\nrule(0, \"w0&w1\")\ngap(0) -> 720");
        T.test("Term 3, GAP: 0 of one that has all", """
            rule(0, "e1,0")
            gap(0) -> 0
            out(0, 5)
            gap(0) -> 1
            out(0, 6)
            gap(0) -> 2
            extra(0, 5)
            gap(0) -> 2
            """);
        T.test("Term 3, GAP: DAYS one behind the other: not the last and the first", """
            rule(0, "r5,710")
            gap(0) -> 9
            rule(0, "r8,710")
            gap(0) -> 9
            """);
    }

    private static void period() {
        T.test("Term 3, PERIOD: the least p", THREE + """
            period(0) -> 7
            period(1) -> 30
            rule(3, "e5,2|e5,4")
            period(3) -> 5
            rule(3, "e60,59")
            period(3) -> 60
            """);
        T.test("Term 3, PERIOD: the least p (1 .. 360): 1", """
            period(0) -> 1
            rule(0, "e1,0")
            period(0) -> 1
            rule(0, "w0&w1")
            period(0) -> 1
            """);
        T.test("Term 3, PERIOD: the least p (1 .. 360): 360, and none above", """
            rule(0, "m2")
            period(0) -> 360
            rule(0, "e360,0")
            period(0) -> 360
            rule(0, "e361,0")
            period(0) -> NO_DAY
            rule(0, "e359,0")
            period(0) -> 359
            rule(0, "r719,719")
            period(0) -> NO_DAY
            """);
        T.test("Term 3, PERIOD: for each DAY d below 720 less p", """
            rule(0, "e300,0")
            period(0) -> 300
            rule(0, "e300,119")
            period(0) -> 300
            rule(0, "e7,0|r719,719")
            period(0) -> NO_DAY
            rule(0, "r359,360")
            period(0) -> NO_DAY
            rule(0, "r0,0|r360,360|r719,719")
            period(0) -> NO_DAY
            """);
        T.test("Term 3, PERIOD: d is its just if d plus p is: one that isn't ahead", """
            rule(0, "w0")
            period(0) -> 7
            out(0, 714)
            period(0) -> NO_DAY
            """);
        T.test("Term 3, PERIOD: d is its just if d plus p is: one that isn't there", """
            rule(0, "w0")
            out(0, 0)
            period(0) -> NO_DAY
            out(0, 0)
            period(0) -> 7
            """);
        T.test("Term 3, PERIOD: of its DAYS, with EXTRA ones and without those OUT", """
            rule(0, "e7,7") -> 102
            period(0) -> NO_DAY
            extra(0, 0)
            period(0) -> 7
            rule(0, "e7,0|r9,9")
            period(0) -> NO_DAY
            out(0, 9)
            period(0) -> 7
            extra(0, 719)
            period(0) -> NO_DAY
            """);
    }

    private static void mergedAndWhose() {
        T.test("Term 3, MERGED: the DAYS of any of them, each once, in order", """
            rule(0, "r5,6|r9,9")
            rule(1, "r6,7|r1,1")
            rule(9, "r9,9|r719,719")
            merged(515, -1) -> 6
            merged(515, 0) -> 1
            merged(515, 1) -> 5
            merged(515, 2) -> 6
            merged(515, 3) -> 7
            merged(515, 4) -> 9
            merged(515, 5) -> 719
            """);
        T.test("Term 3, MERGED: of a set of NAMES (bits)", Sentences.each(0, 9, name -> "extra(" + name + ", " + 70 * name
            + ") -> 1\nmerged("
            + (1 << name) + ", 0) -> "
            + 70 * name + "\nmerged(" + (1 << name) + ", -1) -> 1\nmerged(" + (1023 - (1 << name)) + ", -1) -> " + name));
        T.test("Term 3, MERGED: of no NAME", THREE + "merged(0, -1) -> 0\nmerged(0, 0) -> NO_DAY\n");
        T.test("Term 3, WHOSE: which of the set have it (bits)", """
            rule(0, "r5,6")
            rule(3, "r6,7")
            rule(9, "r5,5|r7,7")
            whose(521, 0) -> 513
            whose(521, 1) -> 9
            whose(521, 2) -> 520
            whose(1023, 0) -> 513
            """);
        T.test("Term 3, WHOSE: none that isn't of the set", """
            rule(0, "r5,5")
            rule(9, "r5,5")
            whose(1, 0) -> 1
            whose(512, 0) -> 512
            whose(2, 0) whose(0, 0) -> 0
            """);
    }

    private static void busiest() {
        T.test("Term 3, BUSIEST: the DAY of a span that most NAMES have", THREE + """
            extra(7, 11) extra(8, 11) -> 1
            busiest(0, 719, 0) -> 11
            busiest(0, 719, 1) -> 3
            busiest(12, 719, 0) -> 14
            busiest(12, 719, 1) -> 2
            """);
        T.test("Term 3, BUSIEST: both ends are of the span", THREE + """
            busiest(14, 14, 0) busiest(14, 20, 0) busiest(13, 14, 0) busiest(8, 14, 0) -> 14
            busiest(14, 14, 1) busiest(14, 20, 1) busiest(13, 14, 1) -> 2
            busiest(15, 20, 0) busiest(13, 13, 0) -> NO_DAY
            """);
        T.test("Term 3, BUSIEST: of several the least", THREE + """
            busiest(0, 719, 0) -> 0
            busiest(1, 719, 0) -> 14
            busiest(10, 13, 0) -> 10
            busiest(11, 13, 0) -> 11
            """);
        T.test("Term 3, BUSIEST: how many: at least 1", THREE + """
            busiest(1, 6, 0) -> NO_DAY
            busiest(1, 6, 1) -> 0
            busiest(1, 7, 0) -> 7
            busiest(1, 7, 1) -> 1
            drop(0) drop(1) drop(2)
            busiest(0, 719, 0) -> NO_DAY
            busiest(0, 719, 1) -> 0
            """);
        T.test("Term 3, BUSIEST: all ten NAMES count, each once", Sentences.eachName("""
            extra(NAME, 700) rule(NAME, "r700,700") -> 1
            """) + "busiest(0, 719, 1) -> 10\nbusiest(0, 719, 0) -> 700");
    }

    private static void remembered() {
        T.test("Term 3, REMEMBERED are up to 6 SPANS", SIX_SPANS + """
            told(3) -> 6
            remembered(0, 1) -> 0
            remembered(5, 1) -> 5
            remembered(6, 1) -> NONE
            """);
        T.test("Term 3, REMEMBERED: (a NAME, a DAY, another one) with how many DAYS it has in it", THREE + """
            count(2, 11, 719) -> 2
            remembered(0, 0) remembered(0, 3) -> 2
            remembered(0, 1) -> 11
            remembered(0, 2) -> 719
            """);
        T.test("Term 3, count() asks for one that is REMEMBERED: HITS is 1 more", THREE + """
            count(0, 0, 50)
            told(1) -> 0
            count(0, 0, 50) -> 8
            told(1) told(2) told(3) -> 1
            count(0, 0, 50) -> 8
            told(1) -> 2
            told(2) told(3) -> 1
            """);
        T.test("Term 3, else MISSES, and it is REMEMBERED", THREE + """
            told(2) told(3) -> 0
            count(0, 0, 50)
            told(2) told(3) -> 1
            count(0, 0, 51)
            told(2) told(3) -> 2
            told(1) -> 0
            """);
        T.test("Term 3, a SPAN is another one by its NAME, and by either DAY", THREE + """
            count(0, 5, 50) count(1, 5, 50) count(0, 6, 50) count(0, 5, 51)
            told(1) -> 0
            told(2) told(3) -> 4
            """);
        T.test("Term 3, in either case as the latest: the eldest that is asked for again", SIX_SPANS + """
            count(0, 0, 100) -> 15
            told(3) -> 6
            remembered(0, 1) -> 1
            remembered(4, 1) -> 5
            remembered(5, 1) -> 0
            remembered(5, 3) -> 15
            """);
        T.test("Term 3, in either case as the latest: one between, and the latest itself", SIX_SPANS + """
            count(0, 3, 100) count(0, 3, 100) -> 14
            told(1) -> 2
            remembered(0, 1) -> 0
            remembered(2, 1) -> 2
            remembered(3, 1) -> 4
            remembered(4, 1) -> 5
            remembered(5, 1) -> 3
            """);
        T.test("Term 3, in either case as the latest: one that wasn't REMEMBERED", THREE + """
            count(0, 9, 9) count(0, 8, 8)
            remembered(0, 1) -> 9
            remembered(1, 1) -> 8
            """);
        T.test("Term 3, of 7 the eldest is no more", SIX_SPANS + """
            count(0, 6, 100) -> 14
            told(3) -> 6
            remembered(0, 1) -> 1
            remembered(5, 1) -> 6
            told(2) -> 7
            count(0, 0, 100) -> 15
            told(2) -> 8
            told(1) -> 0
            remembered(0, 1) -> 2
            remembered(5, 1) -> 0
            """);
        T.test("Term 3, of 7 the eldest is no more: not one that was asked for since", SIX_SPANS + """
            count(0, 0, 100) count(0, 0, 101) -> 15
            remembered(0, 1) -> 2
            count(0, 0, 100) -> 15
            told(1) -> 2
            told(2) -> 7
            """);
    }

    /** A is asked for twice, B once: what makes those of A no more leaves B's. */
    private static void forgets(String what, String change) {
        String asked = THREE + "extra(0, 3) out(0, 14)\ncount(0, 0, 50)\ncount(1, 0, 50)\ncount(0, 0, 60)\n";
        T.test("Term 3, those of a NAME are no more, as " + what, asked + change + """

            told(3) remembered(0, 0) -> 1
            remembered(0, 3) -> 4
            told(2) -> 3
            told(1) -> 0
            count(0, 0, 50)
            told(2) -> 4
            count(1, 0, 50) -> 4
            told(1) -> 1
            """);
    }

    private static void forgotten() {
        forgets("its RULE is another", "rule(0, \"w1\")");
        forgets("its RULE is told anew", "rule(0, \"w0\")");
        forgets("its RULE is told anew by itself", "copy(0, 0)");
        forgets("its RULE is that of another", "copy(2, 0)");
        forgets("it has no RULE", "drop(0)");
        forgets("its OUT ones are others: one more", "out(0, 7)");
        forgets("its OUT ones are others: one that it hasn't", "out(0, 719)");
        forgets("its OUT ones are others: one less", "out(0, 14)");
        forgets("its EXTRA ones are others: one more", "extra(0, 719)");
        forgets("its EXTRA ones are others: one that it has", "extra(0, 7)");
        forgets("its EXTRA ones are others: one less", "extra(0, 3)");
        T.test("Term 3, those of other NAMES stay, in their order", THREE + """
            count(1, 0, 10) count(0, 0, 10) count(2, 0, 10) count(0, 0, 20) count(1, 0, 20) count(0, 0, 30)
            out(0, 1) -> 1
            told(3) -> 3
            remembered(0, 0) remembered(2, 0) -> 1
            remembered(1, 0) -> 2
            remembered(0, 2) remembered(1, 2) -> 10
            remembered(2, 2) -> 20
            remembered(3, 0) -> NONE
            """);
        T.test("Term 3, those of a NAME whose RULE was told by another one stay", """
            rule(0, "w0")
            rule(1, "A")
            count(1, 0, 50) -> 8
            rule(0, "w1")
            out(0, 0)
            told(3) -> 1
            count(1, 0, 50) -> 8
            told(1) -> 1
            """);
        T.test("Term 3, those of a NAME that is copied stay", THREE + "count(0, 0, 50)\ncopy(0, 5) -> 103\ntold(3) -> 1");
        T.test("Term 3, behind what was no more there is room for 6 again", SIX_SPANS + """
            rule(0, "w1")
            told(3) -> 0
            count(0, 1, 7) count(0, 2, 8) count(0, 3, 9) count(0, 4, 10) count(0, 5, 11) count(0, 6, 12) -> 1
            told(3) -> 6
            remembered(0, 1) -> 1
            remembered(5, 2) -> 12
            count(0, 7, 13) -> 1
            remembered(0, 1) -> 2
            """);
    }

    private static void lists() {
        T.test("Term 4, LISTS 0 .. 3", Sentences.each(0, 3, list -> "list(" + list + ", 2) -> 1\nput(" + list + ", 1, " + (list + 7)
            + ") -> 1")
            + Sentences.each(0, 3, list -> "get(" + list + ", 1) -> " + (list + 7)));
        T.test("Term 4, LISTS 0 .. 3: -1 and 4 are none", Sentences.each(0, 1, i -> """
            list(LIST, 1) put(LIST, 0, 1) move(LIST, 0, 0, 0, 0) move(0, 0, LIST, 0, 0) lay(LIST, 0, 0, 0) judge(LIST, 0, 0, 0) -> NONE
            get(LIST, 0) -> NO_PLACE
            """.replace("LIST", i == 0 ? "-1" : "4")));
        T.test("Term 4, LISTS hold nothing (at first)", Sentences.each(0, 3, list -> """
            get(LIST, 0) -> NO_PLACE
            put(LIST, 0, 1) move(LIST, 0, LIST, 0, 0) lay(LIST, 0, 0, 0) judge(LIST, 0, 0, 0) -> NOTHING
            """.replace("LIST", String.valueOf(list))));
        T.test("Term 4, a row of 0 ints is held", """
            list(0, 0) -> 1
            put(0, 0, 1) -> BEYOND
            lay(0, 0, 0, 0) -> 0
            judge(0, 0, 0, 0) -> NO_DAY
            move(0, 0, 0, 0, 0) -> 0
            get(0, 0) -> NO_PLACE
            """);
        T.test("Term 4, a row of 30 ints, and no longer one", """
            list(0, 30) -> 1
            put(0, 29, 5) -> 1
            get(0, 29) -> 5
            put(0, 30, 5) -> BEYOND
            get(0, 30) -> NO_PLACE
            list(0, 31) -> BAD
            get(0, 29) -> 5
            """);
        T.test("Term 4, a row of ints: from the least to the greatest", """
            list(0, 3) -> 1
            put(0, 0, MIN) put(0, 1, MAX) put(0, 2, -2000000000) -> 1
            get(0, 0) -> MIN
            get(0, 1) -> MAX
            get(0, 2) -> -2000000000
            """);
        T.test("Term 4, NOTHING (-11): none is held", "put(2, 0, 1) -> -11\nlist(2, 1) -> 1\nput(2, 0, 1) -> 1");
        T.test("Term 4, BEYOND (-13): no such place", "list(2, 1) -> 1\nput(2, 1, 1) put(2, -1, 1) -> -13\nput(2, 0, 1) -> 1");
        T.test("Term 4, BELOW (-14): a size below 0", "list(2, -1) list(2, MIN) -> -14\nput(2, 0, 1) -> NOTHING\nlist(2, 0) -> 1");
    }

    private static void laid() {
        T.test("Term 4, LAID: DAYS of a NAME from a DAY on", THREE + """
            list(0, 3)
            lay(0, 0, 2, 11) -> 2
            get(0, 0) -> 11
            get(0, 1) -> 12
            lay(0, 0, 0, 11) -> 3
            get(0, 0) -> 14
            get(0, 2) -> 28
            lay(0, 0, 0, 0) -> 3
            get(0, 0) -> 0
            """);
        T.test("Term 4, LAID: from a place on", THREE + """
            list(0, 4)
            put(0, 0, -7)
            lay(0, 1, 2, 0) -> 3
            get(0, 0) -> -7
            get(0, 1) -> 10
            get(0, 3) -> 12
            """);
        T.test("Term 4, LAID: until a place isn't there", THREE + """
            list(0, 2)
            list(1, 30)
            lay(0, 0, 0, 1) -> 2
            get(0, 1) -> 14
            get(0, 2) -> NO_PLACE
            lay(0, 1, 0, 1) -> 1
            lay(0, 2, 0, 1) -> 0
            lay(1, 0, 0, 1) -> 30
            get(1, 29) -> 210
            """);
        T.test("Term 4, LAID: or there is no more", THREE + """
            list(0, 5)
            put(0, 3, -7)
            lay(0, 0, 2, 0) -> 3
            get(0, 2) -> 12
            get(0, 3) -> -7
            lay(0, 0, 2, 13) lay(0, 0, 9, 0) -> 0
            get(0, 0) -> 10
            lay(0, 4, 0, 714) -> 1
            get(0, 4) -> 714
            """);
        T.test("Term 4, LAID: EXTRA ones, too, in order, and none OUT", """
            rule(0, "r5,7")
            out(0, 6)
            extra(0, 1)
            list(0, 4)
            lay(0, 0, 0, 0) -> 3
            get(0, 0) -> 1
            get(0, 1) -> 5
            get(0, 2) -> 7
            get(0, 3) -> 0
            """);
    }

    private static void judged() {
        T.test("Term 4, JUDGED: the first of the places that hasn't the next of the DAYS of a NAME from a DAY on", THREE + """
            list(0, 3)
            lay(0, 0, 0, 7)
            judge(0, 0, 0, 7) judge(0, 0, 0, 1) -> NO_DAY
            judge(0, 0, 0, 0) judge(0, 0, 0, 8) -> 0
            put(0, 2, 22)
            judge(0, 0, 0, 7) -> 2
            put(0, 1, 15)
            judge(0, 0, 0, 7) -> 1
            put(0, 0, 6)
            judge(0, 0, 0, 7) -> 0
            """);
        T.test("Term 4, JUDGED: to the end of the LIST", THREE + """
            list(0, 2)
            lay(0, 0, 0, 0)
            judge(0, 0, 0, 0) -> NO_DAY
            put(0, 1, 8)
            judge(0, 0, 0, 0) -> 1
            judge(0, 2, 0, 0) -> NO_DAY
            list(1, 30)
            lay(1, 0, 0, 0) -> 30
            judge(1, 0, 0, 0) -> NO_DAY
            put(1, 29, 204)
            judge(1, 0, 0, 0) -> 29
            """);
        T.test("Term 4, JUDGED: -1 where there is no more", THREE + """
            list(0, 5)
            lay(0, 0, 2, 0)
            judge(0, 0, 2, 0) -> 3
            put(0, 3, -1)
            judge(0, 0, 2, 0) -> 4
            put(0, 4, -1)
            judge(0, 0, 2, 0) judge(0, 3, 9, 0) judge(0, 3, 2, 13) -> NO_DAY
            put(0, 4, -5)
            judge(0, 0, 2, 0) -> 4
            put(0, 0, -1)
            judge(0, 0, 0, 0) -> 0
            """);
        T.test("Term 4, JUDGED: -1 behind DAY 719", """
            rule(0, "r719,719")
            list(0, 3)
            put(0, 0, 719)
            put(0, 1, -1)
            judge(0, 0, 0, 719) -> 2
            put(0, 2, -1)
            judge(0, 0, 0, 719) -> NO_DAY
            """);
        T.test("Term 4, JUDGED: told from that place on: 0 the first", THREE + """
            list(0, 5)
            put(0, 2, 10) put(0, 3, 11)
            judge(0, 0, 2, 0) judge(0, 1, 2, 0) -> 0
            judge(0, 2, 2, 0) -> 2
            judge(0, 3, 2, 11) -> 1
            """);
        T.test("Term 4, JUDGED: -5: none", THREE + """
            list(0, 0)
            judge(0, 0, 2, 0) -> -5
            list(1, 1)
            put(1, 0, 10)
            judge(1, 0, 2, 0) judge(1, 1, 2, 0) -> -5
            """);
    }

    private static void image() {
        String changed = THREE + """
            out(0, 7) extra(3, 8) extra(2, 12)
            image() -> 3
            rule(0, "w1")
            rule(4, "w2")
            drop(1)
            out(0, 7) out(0, 14) out(4, 2) extra(3, 8) extra(4, 9) extra(2, 13)
            """;
        T.test("Term 4, THE IMAGE: RULES", changed + """
            undo() -> 3
            told(0) -> 3
            drop(3) drop(4) -> STATE
            drop(0) -> 103
            drop(1) -> 48
            drop(2) -> 3
            """);
        T.test("Term 4, THE IMAGE: OUT DAYS", changed + """
            undo() -> 3
            told(5) -> 1
            has(0, 7) -> 0
            has(0, 14) -> 1
            out(0, 7) -> 0
            has(0, 7) -> 1
            out(4, 2) -> 1
            """);
        T.test("Term 4, THE IMAGE: EXTRA DAYS", changed + """
            undo() -> 3
            told(6) -> 2
            at(3, 0) -> 8
            at(4, 0) -> NO_DAY
            at(2, -1) -> 12
            extra(3, 8) -> 0
            extra(2, 12) -> 0
            extra(4, 9) -> 1
            """);
        T.test("Term 4, THE IMAGE: HITS, MISSES, THE TAPE, LISTS stay by undo()", THREE + """
            count(0, 0, 50) list(0, 2) list(1, 1) put(0, 1, 5)
            tape("w") -> 1
            image() -> 3
            count(0, 0, 50) count(0, 0, 50) count(1, 0, 50) list(0, 3) put(0, 2, 77) list(3, 1) put(1, 0, 9)
            tape("0") -> 2
            undo() -> 3
            told(1) told(2) -> 2
            told(4) -> 2
            get(0, 2) -> 77
            get(0, 1) get(3, 0) -> 0
            get(1, 0) -> 9
            get(2, 0) -> NO_PLACE
            rule(5) -> 103
            """);
    }
}
