/** What the document tells of all answers, behind the Terms: which one comes first, and what they change. */
public final class AnswersTest {
    private static final Sentences T = new Sentences();

    /** Something of everything that an object holds; few DAYS, so that a probe sees each. */
    private static final String HELD = """
        rule(0, "r3,5") rule(1, "r7,7|r9,9") rule(2, "r9,9")
        out(0, 4) extra(0, 8) extra(3, 1) out(9, 6)
        image()
        rule(2, "r1,2") extra(4, 6) out(0, 3)
        count(0, 0, 9) count(1, 0, 9) count(0, 0, 9) count(4, 0, 719)
        list(0, 3) put(0, 1, 5) put(0, 2, 9) list(1, 0)
        tape("r0,")
        """;
    /** Which DAYS each NAME has. */
    private static final String DAYS = """
        at(0, 0) at(0, 1) at(0, 2) at(1, 0) at(1, 1) at(1, 2) at(2, 0) at(2, 1) at(2, 2)
        at(3, 0) at(3, 1) at(4, 0) at(4, 1) at(5, 0) at(9, 0)
        told(0) told(5) told(6)
        """;
    private static final String SPANS = """
        told(1) told(2) told(3)
        remembered(0, 0) remembered(0, 1) remembered(0, 2) remembered(0, 3)
        remembered(1, 0) remembered(1, 1) remembered(1, 2) remembered(1, 3)
        remembered(2, 0) remembered(2, 1) remembered(2, 2) remembered(2, 3) remembered(3, 0)
        """;
    /** Last what can't be seen without a change: OUT and EXTRA DAYS one by one, THE TAPE's bytes, THE IMAGE. */
    private static final String REST = """
        told(4) get(0, 0) get(0, 1) get(0, 2) get(0, 3) get(1, 0) get(2, 0) get(3, 0) put(1, 0, 1) put(2, 0, 1) put(3, 0, 1)
        out(0, 3) out(0, 4) extra(0, 8) extra(3, 1) extra(4, 6) out(9, 6)
        tape("6") rule(8) drop(5) drop(4) drop(2) undo()
        """ + DAYS + """
        out(0, 4) extra(0, 8) extra(3, 1) out(9, 6) drop(0) drop(1) drop(2) drop(3)
        """;

    public static void main(String[] args) {
        constants();
        orders();
        refusals();
        asked();
        tape();
        T.end("AnswersTest", "Terms", 0);
    }

    private static void constants() {
        T.test("Terms, answers: NONE (-1), BAD (-2), STATE (-3), FULL (-4)", "gap(10) -> " + RecurringDays.NONE + "\nfeed(0) -> "
            + RecurringDays.BAD
            + "\nundo() -> " + RecurringDays.STATE + "\ngap(10) -> -1\nfeed(0) -> -2\nundo() -> -3\ntape(\"" + "w".repeat(80)
            + "\") -> 80\nfeed(1) -> -4\nfeed(1) -> "
            + RecurringDays.FULL);
    }

    private static void orders() {
        T.test("Terms, answers: the first that a call's words name: BAD before FULL (Promise 2)", "tape(\"" + "w".repeat(80)
            + "\") -> 80\nfeed(0) feed(128) -> BAD");
        T.test("Terms, answers: the first that a call's words name: NONE before STATE (Promises 5, 6)",
            "drop(10) copy(0, 10) copy(0, -1) copy(10, 0) copy(-1, 0) -> NONE\ncopy(0, 1) copy(0, 0) -> STATE");
        T.test("Terms, answers: the first that a call's words name: NONE before a FAULT (Promise 4)", """
            tape("w7") -> 2
            rule(10) rule(-1) -> NONE
            rule(0) -> -101
            """);
        T.test("Terms, answers: the first that a call's words name: NONE before BAD before FULL (Promises 7, 8)", """
            out(0, 1) out(0, 2) out(0, 3) out(0, 4) out(0, 5) out(0, 6) out(0, 7)
            extra(0, 1) extra(0, 2) extra(0, 3) extra(0, 4) extra(0, 5) extra(0, 6) extra(0, 7)
            out(10, 720) extra(-1, -1) -> NONE
            out(0, 720) out(0, -1) extra(0, 720) extra(0, -1) -> BAD
            out(0, 8) extra(0, 8) -> FULL
            """);
        T.test("Terms, answers: the first that a call's words name: NONE before BAD (Promises 9 to 11, 13, 16)", """
            has(10, 720) next(-1, -1) ahead(10, 720) count(10, 720, 0) count(-1, 5, 4) clash(10, 0, 720) clash(0, -1, -1) -> NONE
            """);
        T.test("Terms, answers: the first that a call's words name: BAD before NONE (Promises 18 to 20)", """
            merged(1024, -2) merged(-1, -2) whose(1024, -1) whose(-1, -1) busiest(-1, 5, 2) busiest(5, 720, -1) busiest(5, 4, 2) -> BAD
            """);
        T.test("Terms, answers: the first that a call's words name: NONE before BAD (Promise 23)", """
            nth(10, 0, 0, 720) nth(0, 3, 0, 720) nth(0, -1, 0, -1) -> NONE
            nth(0, 2, 0, 720) -> BAD
            """);
        T.test("Terms, answers: the first that a call's words name: NONE before BAD and BELOW (Promise 26)", """
            list(4, 31) list(-1, -1) -> NONE
            list(3, 31) -> BAD
            list(3, -1) -> BELOW
            """);
        T.test("Terms, answers: the first that a call's words name: NONE before NOTHING before BEYOND (Promises 27, 29)", """
            list(0, 1)
            put(4, -1, 0) move(4, -1, 1, 0, 1) move(1, 0, -1, -1, 1) move(0, 5, 4, 0, 1) -> NONE
            put(1, -1, 0) put(1, 30, 0) move(0, -1, 1, 0, 1) move(1, 0, 0, 9, 1) move(0, 0, 1, 0, -1) move(0, 0, 1, 0, 31) -> NOTHING
            """);
        T.test("Terms, answers: the first that a call's words name: NONE before BAD before NOTHING before BEYOND (Promises 30, 31)", """
            list(0, 1)
            lay(4, 9, 0, 720) lay(0, 9, 10, 720) lay(1, 0, 10, 0) judge(-1, 9, 0, 720) judge(0, 9, -1, 720) judge(1, 0, 10, 0) -> NONE
            lay(0, 9, 0, 720) lay(1, 0, 0, -1) judge(0, 9, 0, 720) judge(1, 0, 0, -1) -> BAD
            lay(1, 9, 0, 0) lay(1, -1, 0, 0) judge(1, 9, 0, 0) judge(1, -1, 0, 0) -> NOTHING
            """);
    }

    private static void refusals() {
        String probe = DAYS + SPANS + REST;
        T.changesNothing("Terms, answers: what is answered so changes nothing: NONE (Promises 4 to 31)", HELD, """
            rule(10) rule(-1) drop(10) copy(0, 10) copy(10, 0) out(10, 3) extra(-1, 3) has(10, 3) next(10, 3) ahead(10, 3) at(10, 3) -> NONE
            count(10, 0, 9) count(-1, 0, 9) gap(10) period(10) clash(0, 10, 0) clash(10, 0, 0) unlike(0, 10) unlike(10, 0) -> NONE
            merged(3, -2) whose(3, -1) busiest(0, 9, 2) parts(0, 3, 0) parts(10, 0, 0) parts(0, 1, 24) -> NONE
            nth(0, 3, 0, 0) nth(10, 0, 0, 0) -> NONE
            told(7) remembered(6, 0) remembered(3, 0) remembered(0, 4) list(4, 3) list(-1, 3) put(4, 0, 3) put(-1, 0, 3) -> NONE
            move(4, 0, 0, 0, 1) move(0, 0, 4, 0, 1) lay(4, 0, 0, 0) lay(0, 0, 10, 0) judge(4, 0, 0, 0) judge(0, 0, 10, 0) -> NONE
            """, probe);
        T.changesNothing("Terms, answers: what is answered so changes nothing: BAD (Promises 2 to 31)", HELD, """
            feed(0) feed(128) feed(-1) -> BAD
            out(0, 720) out(0, -1) extra(0, 720) extra(3, -1) has(0, 720) next(0, 720) ahead(0, -1) -> BAD
            count(0, -1, 9) -> BAD
            count(0, 0, 720) -> BAD
            count(0, 9, 0) -> BAD
            clash(0, 1, 720) merged(1024, 0) whose(1024, 0) busiest(9, 0, 0) free(1024, 0, 1) free(3, 720, 1) free(3, 0, 100) -> BAD
            nth(0, 0, 0, 720) list(0, 31) lay(0, 0, 0, 720) lay(0, 0, 0, -1) judge(0, 0, 0, 720) -> BAD
            """, probe);
        T.changesNothing("Terms, answers: what is answered so changes nothing: STATE (Promises 5, 6)", HELD, """
            drop(3) -> STATE
            copy(3, 0) -> STATE
            copy(3, 4) copy(5, 5) copy(4, 4) -> STATE
            """, probe);
        T.changesNothing("Terms, answers: what is answered so changes nothing: STATE of undo() (Promise 33)", HELD.replace("image()", ""),
            "undo() -> STATE",
            DAYS + SPANS + REST);
        T.changesNothing("Terms, answers: what is answered so changes nothing: FULL (Promises 7, 8)", HELD + """
            out(0, 11) out(0, 12) out(0, 13) out(0, 14) out(0, 15)
            extra(0, 21) extra(0, 22) extra(0, 23) extra(0, 24) extra(0, 25) extra(0, 26)
            count(0, 0, 9) count(0, 0, 30)
            """, "out(0, 5) -> FULL\nextra(0, 9) -> FULL\nout(0, 100) extra(0, 719) -> FULL",
            DAYS + SPANS + "at(0, 3) at(0, 4) at(0, 5) at(0, 6) at(0, 7) at(0, 8) has(0, 5) has(0, 9) out(0, 11) extra(0, 21) " + REST);
        T.changesNothing("Terms, answers: what is answered so changes nothing: FULL (Promise 2)", "tape(\"" + "w0|".repeat(26)
            + "w0\")", "feed(124) -> FULL\nfeed(48) -> FULL",
            "told(4) rule(0) at(0, 0) at(0, -1)");
        T.changesNothing("Terms, answers: what is answered so changes nothing: NOTHING (Promises 27, 29 to 31)", HELD, """
            put(2, 0, 3) put(3, 0, 3) lay(2, 0, 0, 0) judge(2, 0, 0, 0) -> NOTHING
            move(2, 0, 0, 0, 1) -> NOTHING
            move(0, 0, 2, 0, 1) -> NOTHING
            """, probe);
        T.changesNothing("Terms, answers: what is answered so changes nothing: BEYOND (Promises 27, 29 to 31)", HELD, """
            put(0, 3, 7) put(0, -1, 7) put(1, 0, 7) lay(0, 4, 0, 0) lay(0, -1, 0, 0) lay(1, 1, 0, 0) judge(0, 4, 0, 0) -> BEYOND
            move(0, 1, 0, 0, 3) -> BEYOND
            move(0, 0, 0, 1, 3) -> BEYOND
            move(0, 0, 1, 0, 1) move(0, 2, 0, 0, -1) move(0, -1, 0, 0, 2) move(0, 1, 0, -1, 2) -> BEYOND
            """, probe);
        T.changesNothing("Terms, answers: what is answered so changes nothing: BELOW (Promise 26)", HELD,
            "list(0, -1) list(1, -1) list(2, -1) list(3, MIN) -> BELOW", probe);
        T.changesNothing("Terms, answers: what is answered so changes nothing: -2000000000 (Promise 28)", HELD,
            "get(0, 3) get(0, -1) get(4, 0) get(-1, 0) get(2, 0) get(1, 0) -> NO_PLACE", probe);
        T.changesNothing("Terms, answers: what is answered so changes nothing: -5 (Promises 10 to 31)", HELD, """
            next(0, 9) ahead(0, 4) at(0, 5) period(0) clash(0, 1, 0) unlike(0, 0) merged(1, 9) -> NO_DAY
            busiest(11, 20, 0) free(1023, 700, 99) nth(0, 0, 9, 0) -> NO_DAY
            judge(0, 3, 0, 0) judge(1, 0, 0, 0) -> NO_DAY
            """, probe);
    }

    private static void asked() {
        String probe = DAYS + SPANS + REST;
        T.changesNothing("Terms, answers: what is asked changes nothing (Promises 9 to 31)", HELD, """
            has(0, 5) has(3, 1) -> 1
            next(0, 0) -> 5
            ahead(0, 719) at(0, 1) -> 8
            gap(0) -> 711
            period(9) -> 1
            clash(0, 0, 6) -> 8
            unlike(0, 1) -> 5
            merged(1023, -1) merged(1023, 4) -> 7
            whose(1023, 0) -> 12
            busiest(0, 719, 0) -> 1
            busiest(0, 719, 1) -> 2
            free(1023, 0, 2) -> 3
            parts(0, 0, 0) parts(0, 0, 1) -> 1
            nth(0, 0, 0, 6) nth(0, 1, -2, 6) -> 5
            told(0) told(3) -> 3
            told(1) -> 1
            remembered(2, 3) -> 1
            get(0, 1) -> 5
            judge(0, 0, 0, 0) -> 0
            """, probe);
        T.changesNothing("Terms, answers: what is asked changes nothing but what is REMEMBERED (Promise 13)", HELD, """
            count(0, 0, 9) -> 2
            count(0, 0, 8) -> 2
            count(3, 1, 1) count(1, 9, 719) -> 1
            """,
            DAYS + REST);
    }

    private static void tape() {
        T.test("Terms, answers: -100 less the FAULT of a text (Promise 4)", """
            rule(0) rule(0, "K") -> -100
            rule(0, "w7") -> -101
            rule(0, "%s") -> -180
            """.formatted("w00|".repeat(20)));
        T.test("Terms, answers: THE TAPE is empty behind each call that reads it (Promise 4)", """
            rule(0, "w0") -> 103
            told(4) -> 0
            rule(0, "w7") -> -101
            told(4) -> 0
            rule(0, "w0") -> 103
            tape("w") -> 1
            rule(10) -> NONE
            told(4) -> 1
            """);
    }
}
