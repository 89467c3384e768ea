/** Each promise by number: ordinary inputs, the edges that the document names, wrong inputs. */
public final class PromiseTest {
    private static final int NONE = -1, BAD = -2, STATE = -3, FULL = -4, NO_DAY = -5;
    private static final int NOTHING = -11, BEYOND = -13, BELOW = -14, NO_PLACE = -2000000000;
    private static final int LOW = Integer.MIN_VALUE, HIGH = Integer.MAX_VALUE;
    private static final int[] NO_NAMES = {-1, 10, LOW, HIGH};
    private static final int[] NO_DAYS = {-1, 720, LOW, HIGH};
    private static final int[] NO_SETS = {-1, 1024, LOW, HIGH};
    private static final int[] NO_LISTS = {-1, 4, LOW, HIGH};

    private static final Checks CHECKS = new Checks();

    public static void main(String[] args) {
        newObject();
        feed();
        clear();
        rule();
        drop();
        copy();
        out();
        extra();
        outAndExtraTogether();
        has();
        next();
        ahead();
        at();
        count();
        countRemembers();
        changesForget();
        gap();
        period();
        clash();
        unlike();
        merged();
        whose();
        busiest();
        free();
        parts();
        nth();
        told();
        remembered();
        list();
        put();
        get();
        move();
        lay();
        judge();
        image();
        undo();
        CHECKS.end("PromiseTest");
    }

    private static void due(String call, long got, long want) {
        CHECKS.due(call, got, want);
    }

    /** An object with A: weekday 0, B: dates 1 and 15, C: days 10 to 12. */
    private static RecurringDays three() {
        RecurringDays x = new RecurringDays();
        Checks.rule(x, 0, "w0");
        Checks.rule(x, 1, "d1|d15");
        Checks.rule(x, 2, "r10,12");
        return x;
    }

    private static void newObject() {
        RecurringDays x = new RecurringDays();
        for (int what = 0; what <= 6; what++) {
            due("1 told(" + what + ")", x.told(what), 0);
        }
        for (int name = 0; name < 10; name++) {
            due("1 drop(" + name + ")", x.drop(name), STATE);
            due("1 count(" + name + ")", x.count(name, 0, 719), 0);
        }
        for (int list = 0; list < 4; list++) {
            due("1 get(" + list + ", 0)", x.get(list, 0), NO_PLACE);
            due("1 put(" + list + ", 0, 1)", x.put(list, 0, 1), NOTHING);
        }
        due("1 undo()", x.undo(), STATE);
        due("1 NONE", RecurringDays.NONE, NONE);
        due("1 BAD", RecurringDays.BAD, BAD);
        due("1 STATE", RecurringDays.STATE, STATE);
        due("1 FULL", RecurringDays.FULL, FULL);
    }

    private static void feed() {
        RecurringDays x = new RecurringDays();
        due("2 feed(0)", x.feed(0), BAD);
        due("2 feed(128)", x.feed(128), BAD);
        due("2 feed(-1)", x.feed(-1), BAD);
        due("2 feed(LOW)", x.feed(LOW), BAD);
        due("2 feed(HIGH)", x.feed(HIGH), BAD);
        due("2 feed(1)", x.feed(1), 1);
        due("2 feed(127)", x.feed(127), 2);
        for (int i = 3; i <= 80; i++) {
            due("2 feed, the " + i + ". byte", x.feed('w'), i);
        }
        due("2 feed to a full tape", x.feed('w'), FULL);
        due("2 BAD is named before FULL", x.feed(0), BAD);
        due("2 told(4)", x.told(4), 80);
    }

    private static void clear() {
        RecurringDays x = new RecurringDays();
        due("3 clear() of nothing", x.clear(), 0);
        Checks.tape(x, "w01");
        due("3 clear()", x.clear(), 3);
        due("3 clear() again", x.clear(), 0);
        due("3 told(4)", x.told(4), 0);
        due("3 nothing of the old tape is left", Checks.rule(x, 0, "w"), -101);
        for (int i = 0; i < 80; i++) {
            x.feed('(');
        }
        due("3 clear() of a full tape", x.clear(), 80);
        due("3 feed behind clear()", x.feed('w'), 1);
    }

    private static void rule() {
        RecurringDays x = new RecurringDays();
        for (int name : NO_NAMES) {
            Checks.tape(x, "w0");
            due("4 rule(" + name + ")", x.rule(name), NONE);
            due("4 the tape stays", x.clear(), 2);
        }
        due("4 w0", Checks.rule(x, 9, "w0"), 103);
        due("4 the tape is empty behind a rule", x.told(4), 0);
        due("4 no text", x.rule(9), -100);
        due("4 a fault", Checks.rule(x, 9, "w0w"), -102);
        due("4 the tape is empty behind a fault", x.told(4), 0);
        due("4 a fault does nothing", x.count(9, 0, 719), 103);
        due("4 another rule", Checks.rule(x, 9, "r5,5"), 1);
        due("4 it is in the first one's place", x.at(9, -1), 5);
        x.extra(9, 100);
        x.out(9, 5);
        due("4 counts the rule's days alone", Checks.rule(x, 9, "r5,6"), 2);
        due("4 out and extra days stay", x.at(9, 0) * 1000 + x.at(9, 1), 6100);
        due("4 a rule without a day", Checks.rule(x, 8, "w0&w1"), 0);
        due("4 it is a rule all the same", x.drop(8), 0);
    }

    private static void drop() {
        RecurringDays x = three();
        for (int name : NO_NAMES) {
            due("5 drop(" + name + ")", x.drop(name), NONE);
        }
        due("5 drop of none", x.drop(3), STATE);
        x.extra(1, 5);
        x.out(1, 0);
        due("5 drop(1)", x.drop(1), 48);
        due("5 drop(1) again", x.drop(1), STATE);
        due("5 extra days stay", x.at(1, 0), 5);
        due("5 and no other is left", x.at(1, 1), NO_DAY);
        Checks.rule(x, 1, "r0,1");
        due("5 out days stay", x.at(1, 0), 1);
        due("5 others stay", x.drop(0), 103);
    }

    private static void copy() {
        RecurringDays x = three();
        for (int name : NO_NAMES) {
            due("6 copy(" + name + ", 0)", x.copy(name, 0), NONE);
            due("6 copy(0, " + name + ")", x.copy(0, name), NONE);
            due("6 NONE is named before STATE", x.copy(5, name), NONE);
        }
        due("6 copy of none", x.copy(5, 0), STATE);
        due("6 it does nothing", x.count(0, 0, 719), 103);
        x.extra(2, 100);
        x.out(2, 10);
        x.extra(5, 7);
        x.out(5, 12);
        due("6 copy(2, 5)", x.copy(2, 5), 3);
        due("6 days of the copy, 1", x.at(5, 0), 7);
        due("6 days of the copy, 2", x.at(5, 1), 10);
        due("6 days of the copy, 3", x.at(5, 2), 11);
        due("6 days of the copy, 4", x.at(5, 3), NO_DAY);
        due("6 the first keeps its own", x.at(2, 0), 11);
        due("6 to itself", x.copy(2, 2), 3);
        x.drop(2);
        due("6 the copy stands alone", x.drop(5), 3);
    }

    private static void out() {
        RecurringDays x = new RecurringDays();
        Checks.rule(x, 0, "r0,9");
        for (int name : NO_NAMES) {
            due("7 out(" + name + ", 0)", x.out(name, 0), NONE);
            due("7 NONE is named before BAD", x.out(name, -1), NONE);
        }
        for (int day : NO_DAYS) {
            due("7 out(0, " + day + ")", x.out(0, day), BAD);
        }
        for (int i = 1; i <= 7; i++) {
            due("7 out, the " + i + ".", x.out(0, i), i);
        }
        due("7 one too many", x.out(0, 8), FULL);
        due("7 it stays in", x.has(0, 8), 1);
        due("7 BAD is named before FULL", x.out(0, 720), BAD);
        due("7 another name has its own seven", x.out(1, 719), 1);
        due("7 no more out, also with 7", x.out(0, 4), 6);
        due("7 it is back", x.has(0, 4), 1);
        due("7 the next is out", x.has(0, 5), 0);
        due("7 room for one", x.out(0, 0), 7);
        due("7 count", x.count(0, 0, 719), 3);
    }

    private static void extra() {
        RecurringDays x = new RecurringDays();
        for (int name : NO_NAMES) {
            due("8 extra(" + name + ", 0)", x.extra(name, 0), NONE);
            due("8 NONE is named before BAD", x.extra(name, 720), NONE);
        }
        for (int day : NO_DAYS) {
            due("8 extra(0, " + day + ")", x.extra(0, day), BAD);
        }
        for (int i = 1; i <= 7; i++) {
            due("8 extra, the " + i + ".", x.extra(0, i * 100), i);
        }
        due("8 one too many", x.extra(0, 719), FULL);
        due("8 it stays away", x.has(0, 719), 0);
        due("8 BAD is named before FULL", x.extra(0, -1), BAD);
        due("8 another name has its own seven", x.extra(9, 0), 1);
        due("8 no more extra, also with 7", x.extra(0, 100), 6);
        due("8 it is away", x.has(0, 100), 0);
        due("8 days without a rule", x.count(0, 0, 719), 6);
        due("8 room for one", x.extra(0, 719), 7);
        due("8 the last", x.at(0, -1), 719);
    }

    private static void outAndExtraTogether() {
        RecurringDays x = new RecurringDays();
        Checks.rule(x, 0, "r0,1");
        due("8 extra and in the rule", x.extra(0, 1), 1);
        due("8 a day once", x.count(0, 0, 719), 2);
        due("8 no more extra, still in the rule", x.extra(0, 1), 0);
        due("8 has", x.has(0, 1), 1);
        x.extra(0, 50);
        due("8 extra and out", x.out(0, 50), 1);
        due("8 is none", x.has(0, 50), 0);
        due("8 no more out", x.out(0, 50), 0);
        due("8 is one again", x.has(0, 50), 1);
    }

    private static void has() {
        RecurringDays x = three();
        for (int name : NO_NAMES) {
            due("9 has(" + name + ", 0)", x.has(name, 0), NONE);
            due("9 NONE is named before BAD", x.has(name, -1), NONE);
        }
        for (int day : NO_DAYS) {
            due("9 has(0, " + day + ")", x.has(0, day), BAD);
        }
        for (int day = 0; day < 720; day++) {
            due("9 has(0, " + day + ")", x.has(0, day), day % 7 == 0 ? 1 : 0);
        }
        due("9 has of none", x.has(9, 0), 0);
    }

    private static void next() {
        RecurringDays x = three();
        for (int name : NO_NAMES) {
            due("10 next(" + name + ", 0)", x.next(name, 0), NONE);
            due("10 NONE is named before BAD", x.next(name, -1), NONE);
        }
        for (int day : NO_DAYS) {
            due("10 next(0, " + day + ")", x.next(0, day), BAD);
        }
        due("10 the day itself", x.next(0, 7), 7);
        due("10 a later one", x.next(0, 8), 14);
        due("10 behind the last", x.next(0, 715), NO_DAY);
        x.extra(9, 719);
        due("10 the last day of all", x.next(9, 0), 719);
        x.extra(9, 719);
        due("10 up to the last", x.next(0, 714), 714);
        due("10 of none", x.next(9, 0), NO_DAY);
    }

    private static void ahead() {
        RecurringDays x = three();
        for (int name : NO_NAMES) {
            due("11 ahead(" + name + ", 0)", x.ahead(name, 0), NONE);
            due("11 NONE is named before BAD", x.ahead(name, 720), NONE);
        }
        for (int day : NO_DAYS) {
            due("11 ahead(0, " + day + ")", x.ahead(0, day), BAD);
        }
        due("11 the day itself", x.ahead(0, 7), 7);
        due("11 an earlier one", x.ahead(0, 13), 7);
        due("11 before the first", x.ahead(2, 9), NO_DAY);
        due("11 the first day of all", x.ahead(0, 6), 0);
        due("11 from the first day", x.ahead(0, 0), 0);
        due("11 from the end", x.ahead(2, 719), 12);
        due("11 of none", x.ahead(9, 719), NO_DAY);
    }

    private static void at() {
        RecurringDays x = three();
        for (int name : NO_NAMES) {
            due("12 at(" + name + ", 0)", x.at(name, 0), NONE);
        }
        due("12 at(2, 0)", x.at(2, 0), 10);
        due("12 at(2, 2)", x.at(2, 2), 12);
        due("12 at(2, 3)", x.at(2, 3), NO_DAY);
        due("12 at(2, -1)", x.at(2, -1), 12);
        due("12 at(2, -3)", x.at(2, -3), 10);
        due("12 at(2, -4)", x.at(2, -4), NO_DAY);
        due("12 at(2, LOW)", x.at(2, LOW), NO_DAY);
        due("12 at(2, HIGH)", x.at(2, HIGH), NO_DAY);
        due("12 of none", x.at(9, 0), NO_DAY);
    }

    private static void count() {
        RecurringDays x = three();
        for (int name : NO_NAMES) {
            due("13 count(" + name + ", 0, 1)", x.count(name, 0, 1), NONE);
            due("13 NONE is named before BAD", x.count(name, 1, 0), NONE);
        }
        for (int day : NO_DAYS) {
            due("13 count(0, " + day + ", 719)", x.count(0, day, 719), BAD);
            due("13 count(0, 0, " + day + ")", x.count(0, 0, day), BAD);
        }
        due("13 to is below from", x.count(0, 5, 4), BAD);
        due("13 what is refused is no miss", x.told(2), 0);
        due("13 one day", x.count(0, 7, 7), 1);
        due("13 both ends count", x.count(0, 7, 14), 2);
        due("13 between them", x.count(0, 8, 13), 0);
        due("13 all", x.count(2, 0, 719), 3);
    }

    private static void countRemembers() {
        RecurringDays x = three();
        for (int i = 0; i < 6; i++) {
            x.count(0, i, 100);
        }
        due("13 misses", x.told(2), 6);
        due("13 hits", x.told(1), 0);
        due("13 the eldest again", x.count(0, 0, 100), 15);
        due("13 hits", x.told(1), 1);
        for (int i = 0; i < 6; i++) {
            due("13 the one asked for again is the latest now, " + i, x.remembered(i, 1), (i + 1) % 6);
        }
        x.count(0, 0, 101);
        due("13 a seventh: six are kept", x.told(3), 6);
        due("13 the eldest is no more", x.remembered(0, 1), 2);
        due("13 the latest", x.remembered(5, 2), 101);
        x.count(0, 1, 100);
        due("13 what is no more is a miss", x.told(2), 8);
        x.count(1, 1, 100);
        due("13 another name is another span", x.told(2), 9);
        due("13 hits", x.told(1), 1);
    }

    /** A span of A and one of B are asked for; a change of A leaves B's alone. */
    private static RecurringDays asked() {
        RecurringDays x = three();
        x.count(0, 0, 50);
        x.count(1, 0, 50);
        x.count(0, 0, 60);
        return x;
    }

    private static void oneIsLeft(String change, RecurringDays x) {
        due(change + ": how many are left", x.told(3), 1);
        due(change + ": whose", x.remembered(0, 0), 1);
        due(change + ": how many days", x.remembered(0, 3), 4);
        due(change + ": hits stay", x.told(1), 0);
        due(change + ": misses stay", x.told(2), 3);
    }

    private static void changesForget() {
        RecurringDays x = asked();
        Checks.rule(x, 0, "w0");
        oneIsLeft("4 the same rule told anew", x);
        x = asked();
        x.drop(0);
        oneIsLeft("5 drop", x);
        x = asked();
        x.copy(2, 0);
        oneIsLeft("6 copy", x);
        x = asked();
        x.copy(0, 0);
        oneIsLeft("6 copy to itself", x);
        x = asked();
        x.out(0, 719);
        oneIsLeft("7 out", x);
        x = asked();
        x.extra(0, 719);
        oneIsLeft("8 extra", x);
        x = asked();
        Checks.rule(x, 0, "w7");
        x.copy(5, 0);
        x.out(0, 720);
        x.extra(0, -1);
        x.copy(0, 5);
        x.image();
        due("what is refused, or of another, forgets nothing", x.told(3), 3);
        x.count(1, 0, 60);
        x.count(2, 0, 60);
        x.drop(1);
        due("the others keep their order, 3", x.remembered(2, 0), 2);
        due("the others keep their order", x.told(3), 3);
        due("the others keep their order, 1", x.remembered(0, 2), 50);
        due("the others keep their order, 2", x.remembered(1, 2), 60);
        x = three();
        for (int day = 0; day < 7; day++) {
            x.out(0, day);
            x.extra(0, day);
        }
        x.count(0, 0, 50);
        due("7 full", x.out(0, 100), FULL);
        due("8 full", x.extra(0, 100), FULL);
        due("what is full forgets nothing", x.told(3), 1);
        x.out(0, 3);
        due("7 no more out forgets", x.told(3), 0);
    }

    private static void gap() {
        RecurringDays x = three();
        for (int name : NO_NAMES) {
            due("14 gap(" + name + ")", x.gap(name), NONE);
        }
        due("14 between", x.gap(0), 6);
        due("14 at the end", x.gap(2), 707);
        due("14 of none", x.gap(9), 720);
        Checks.rule(x, 3, "r600,719");
        due("14 at the start", x.gap(3), 600);
        Checks.rule(x, 3, "r0,719");
        due("14 of all", x.gap(3), 0);
        x.out(3, 5);
        due("14 a day out", x.gap(3), 1);
    }

    private static void period() {
        RecurringDays x = three();
        for (int name : NO_NAMES) {
            due("15 period(" + name + ")", x.period(name), NONE);
        }
        due("15 of none", x.period(9), 1);
        due("15 a week", x.period(0), 7);
        due("15 a month", x.period(1), 30);
        due("15 days once", x.period(2), NO_DAY);
        due("15 a year", Checks.rule(x, 3, "m2") > 0 ? x.period(3) : 0, 360);
        Checks.rule(x, 3, "e359,0");
        due("15 a day less than a year", x.period(3), 359);
        Checks.rule(x, 3, "e361,0");
        due("15 a day more than a year", x.period(3), NO_DAY);
        Checks.rule(x, 3, "r359,360");
        due("15 no day has another p ahead", x.period(3), NO_DAY);
        Checks.rule(x, 3, "r0,719");
        due("15 of all", x.period(3), 1);
        Checks.rule(x, 3, "r719,719");
        due("15 the last day", x.period(3), NO_DAY);
        Checks.rule(x, 3, "e60,59");
        due("15 sixty", x.period(3), 60);
        x.extra(3, 700);
        due("15 an extra day breaks it", x.period(3), NO_DAY);
        x.extra(3, 700);
        Checks.rule(x, 3, "r0,59|r61,718");
        due("15 a period that a word of sixty would hide", x.period(3), NO_DAY);
        Checks.rule(x, 3, "e300,0");
        due("15 a period that isn't of weeks or months", x.period(3), 300);
    }

    private static void clash() {
        RecurringDays x = three();
        for (int name : NO_NAMES) {
            due("16 clash(" + name + ", 0, 0)", x.clash(name, 0, 0), NONE);
            due("16 clash(0, " + name + ", 0)", x.clash(0, name, 0), NONE);
            due("16 NONE is named before BAD", x.clash(0, name, -1), NONE);
        }
        for (int day : NO_DAYS) {
            due("16 clash(0, 1, " + day + ")", x.clash(0, 1, day), BAD);
        }
        due("16 the day itself", x.clash(0, 1, 0), 0);
        due("16 a later one", x.clash(0, 1, 1), 14);
        due("16 behind the last", x.clash(0, 1, 715), NO_DAY);
        due("16 with itself", x.clash(2, 2, 11), 11);
        due("16 none", x.clash(1, 2, 0), NO_DAY);
        due("16 with one that has none", x.clash(0, 9, 0), NO_DAY);
    }

    private static void unlike() {
        RecurringDays x = three();
        for (int name : NO_NAMES) {
            due("17 unlike(" + name + ", 0)", x.unlike(name, 0), NONE);
            due("17 unlike(0, " + name + ")", x.unlike(0, name), NONE);
        }
        due("17 unlike(0, 1)", x.unlike(0, 1), 7);
        due("17 unlike(1, 0)", x.unlike(1, 0), 7);
        due("17 with itself", x.unlike(0, 0), NO_DAY);
        due("17 without a rule", x.unlike(8, 9), NO_DAY);
        due("17 with none", x.unlike(2, 9), 10);
        due("17 the first day", x.unlike(0, 9), 0);
        x.copy(0, 9);
        due("17 the same", x.unlike(0, 9), NO_DAY);
        x.extra(9, 719);
        due("17 the last day", x.unlike(0, 9), 719);
    }

    private static void merged() {
        RecurringDays x = three();
        for (int set : NO_SETS) {
            due("18 merged(" + set + ", 0)", x.merged(set, 0), BAD);
            due("18 BAD is named before NONE", x.merged(set, -2), BAD);
        }
        due("18 i below -1", x.merged(1, -2), NONE);
        due("18 i far below", x.merged(1, LOW), NONE);
        due("18 of no name", x.merged(0, -1), 0);
        due("18 of no name, the first", x.merged(0, 0), NO_DAY);
        due("18 without doubles", x.merged(3, -1), 103 + 48 - both(x));
        due("18 all", x.merged(1023, 0), 0);
        due("18 in order, 1", x.merged(6, 1), 10);
        due("18 in order, 2", x.merged(6, 4), 14);
        due("18 the last", x.merged(4, 2), 12);
        due("18 behind the last", x.merged(4, 3), NO_DAY);
        due("18 far behind", x.merged(4, HIGH), NO_DAY);
        x.extra(9, 719);
        due("18 an extra day of J", x.merged(512, 0), 719);
        due("18 its place in the set", x.merged(516, 3), 719);
    }

    private static int both(RecurringDays x) {
        int both = 0;
        for (int day = x.clash(0, 1, 0); day >= 0; day = day == 719 ? -1 : x.clash(0, 1, day + 1)) {
            both++;
        }
        return both;
    }

    private static void whose() {
        RecurringDays x = three();
        for (int set : NO_SETS) {
            due("19 whose(" + set + ", 0)", x.whose(set, 0), BAD);
            due("19 BAD is named before NONE", x.whose(set, -1), BAD);
        }
        due("19 i below 0", x.whose(1, -1), NONE);
        due("19 i far below", x.whose(1, LOW), NONE);
        due("19 of two", x.whose(1023, 0), 3);
        due("19 of the set alone", x.whose(1, 0), 1);
        due("19 of one", x.whose(1023, 1), 1);
        due("19 of another", x.whose(1023, 2), 4);
        due("19 there is none", x.whose(4, 3), 0);
        due("19 there is none far behind", x.whose(4, HIGH), 0);
        due("19 of no name", x.whose(0, 0), 0);
        x.extra(9, 11);
        due("19 J is the highest bit", x.whose(516, 1), 516);
        x.extra(9, 719);
        due("19 the last day", x.whose(512, 1), 512);
    }

    private static void busiest() {
        RecurringDays x = three();
        for (int day : NO_DAYS) {
            due("20 busiest(" + day + ", 719, 0)", x.busiest(day, 719, 0), BAD);
            due("20 busiest(0, " + day + ", 0)", x.busiest(0, day, 0), BAD);
            due("20 BAD is named before NONE", x.busiest(0, day, 2), BAD);
        }
        due("20 to is below from", x.busiest(5, 4, 0), BAD);
        due("20 what 2", x.busiest(0, 719, 2), NONE);
        due("20 what -1", x.busiest(0, 719, -1), NONE);
        due("20 the least of several", x.busiest(0, 719, 0), 0);
        due("20 how many", x.busiest(0, 719, 1), 2);
        due("20 from one on", x.busiest(1, 719, 0), 14);
        due("20 up to one", x.busiest(1, 13, 0), 7);
        due("20 how many", x.busiest(1, 13, 1), 1);
        due("20 nobody's span", x.busiest(1, 6, 0), NO_DAY);
        due("20 nobody's span, how many", x.busiest(1, 6, 1), 0);
        due("20 both ends count", x.busiest(14, 14, 1), 2);
        x.extra(7, 11);
        x.extra(8, 11);
        due("20 the most", x.busiest(0, 719, 0), 11);
        due("20 the most, how many", x.busiest(0, 719, 1), 3);
    }

    private static void free() {
        RecurringDays x = three();
        for (int set : NO_SETS) {
            due("21 free(" + set + ", 0, 1)", x.free(set, 0, 1), BAD);
        }
        for (int day : NO_DAYS) {
            due("21 free(1, " + day + ", 1)", x.free(1, day, 1), BAD);
        }
        for (int n : new int[] {0, -1, 100, LOW, HIGH}) {
            due("21 free(1, 0, " + n + ")", x.free(1, 0, n), BAD);
        }
        due("21 one day", x.free(1, 0, 1), 1);
        due("21 all six", x.free(1, 0, 6), 1);
        due("21 from the second on", x.free(1, 2, 6), 8);
        due("21 seven are none", x.free(1, 0, 7), NO_DAY);
        due("21 of two names", x.free(5, 8, 3), 15);
        due("21 of no name", x.free(0, 621, 99), 621);
        due("21 beyond the end", x.free(0, 622, 99), NO_DAY);
        due("21 the last day", x.free(0, 719, 1), 719);
        due("21 up to the last day", x.free(1, 715, 5), 715);
        due("21 one too many", x.free(1, 715, 6), NO_DAY);
    }

    private static void parts() {
        RecurringDays x = three();
        for (int name : NO_NAMES) {
            due("22 parts(" + name + ", 0, 0)", x.parts(name, 0, 0), NONE);
        }
        for (int block : new int[] {-1, 3, LOW, HIGH}) {
            due("22 parts(0, " + block + ", 0)", x.parts(0, block, 0), NONE);
        }
        int[] last = {102, 23, 1};
        for (int block = 0; block < 3; block++) {
            for (int i : new int[] {-1, last[block] + 1, LOW, HIGH, 1 << 30, 613566757, 143165577}) {
                due("22 parts(0, " + block + ", " + i + ")", x.parts(0, block, i), NONE);
            }
        }
        due("22 a week", x.parts(2, 0, 1), 3);
        due("22 the next week", x.parts(2, 0, 2), 0);
        due("22 the last week", x.parts(0, 0, 102), 1);
        Checks.rule(x, 3, "r0,719");
        due("22 the last week has six days", x.parts(3, 0, 102), 6);
        due("22 a week has seven", x.parts(3, 0, 101), 7);
        due("22 a month", x.parts(3, 1, 23), 30);
        due("22 a year", x.parts(3, 2, 1), 360);
        due("22 a month's days", x.parts(1, 1, 5), 2);
        due("22 a year's days", x.parts(1, 2, 0), 24);
    }

    private static void nth() {
        RecurringDays x = three();
        for (int name : NO_NAMES) {
            due("23 nth(" + name + ", 0, 0, 0)", x.nth(name, 0, 0, 0), NONE);
            due("23 NONE is named before BAD", x.nth(name, 0, 0, -1), NONE);
        }
        for (int block : new int[] {-1, 3, LOW, HIGH}) {
            due("23 nth(0, " + block + ", 0, 0)", x.nth(0, block, 0, 0), NONE);
            due("23 NONE is named before BAD", x.nth(0, block, 0, 720), NONE);
        }
        for (int day : NO_DAYS) {
            due("23 nth(0, 0, 0, " + day + ")", x.nth(0, 0, 0, day), BAD);
        }
        due("23 the first of a month", x.nth(0, 1, 0, 59), 35);
        due("23 the second", x.nth(0, 1, 1, 30), 42);
        due("23 the last", x.nth(0, 1, -1, 30), 56);
        due("23 the last but three", x.nth(0, 1, -4, 30), 35);
        due("23 beyond", x.nth(0, 1, 4, 30), NO_DAY);
        due("23 beyond from the end", x.nth(0, 1, -5, 30), NO_DAY);
        due("23 far beyond", x.nth(0, 1, HIGH, 30), NO_DAY);
        due("23 far beyond from the end", x.nth(0, 1, LOW, 30), NO_DAY);
        due("23 of a week", x.nth(2, 0, 2, 8), 12);
        due("23 of the last week", x.nth(0, 0, -1, 719), 714);
        due("23 of a year", x.nth(0, 2, 0, 719), 364);
        due("23 of the first year", x.nth(0, 2, -1, 0), 357);
    }

    private static void told() {
        RecurringDays x = three();
        for (int what : new int[] {-1, 7, LOW, HIGH}) {
            due("24 told(" + what + ")", x.told(what), NONE);
        }
        x.out(0, 1);
        x.out(9, 1);
        x.extra(3, 1);
        x.extra(4, 1);
        x.extra(4, 2);
        x.count(0, 0, 1);
        x.count(0, 0, 1);
        x.count(0, 0, 2);
        x.count(0, 0, 3);
        x.drop(2);
        due("24 remembered", x.told(3), 3);
        Checks.tape(x, "w0|w");
        x.out(0, 719);
        x.out(9, 2);
        due("24 rules", x.told(0), 2);
        due("24 hits", x.told(1), 1);
        due("24 misses", x.told(2), 3);
        due("24 the tape", x.told(4), 4);
        due("24 out", x.told(5), 4);
        due("24 extra", x.told(6), 3);
    }

    private static void remembered() {
        RecurringDays x = three();
        due("25 nothing", x.remembered(0, 0), NONE);
        x.count(0, 7, 14);
        x.count(2, 11, 719);
        due("25 the eldest's name", x.remembered(0, 0), 0);
        due("25 from", x.remembered(0, 1), 7);
        due("25 to", x.remembered(0, 2), 14);
        due("25 how many", x.remembered(0, 3), 2);
        due("25 the next one's name", x.remembered(1, 0), 2);
        due("25 from", x.remembered(1, 1), 11);
        due("25 to", x.remembered(1, 2), 719);
        due("25 how many", x.remembered(1, 3), 2);
        for (int i : new int[] {-1, 2, 6, LOW, HIGH}) {
            due("25 remembered(" + i + ", 0)", x.remembered(i, 0), NONE);
        }
        for (int what : new int[] {-1, 4, LOW, HIGH}) {
            due("25 remembered(0, " + what + ")", x.remembered(0, what), NONE);
        }
    }

    private static void list() {
        RecurringDays x = new RecurringDays();
        for (int list : NO_LISTS) {
            due("26 list(" + list + ", 1)", x.list(list, 1), NONE);
            due("26 NONE is named before BAD", x.list(list, 31), NONE);
            due("26 NONE is named before BELOW", x.list(list, -1), NONE);
        }
        due("26 n above 30", x.list(0, 31), BAD);
        due("26 n far above 30", x.list(0, HIGH), BAD);
        due("26 a size below 0", x.list(0, -1), BELOW);
        due("26 a size far below 0", x.list(0, LOW), BELOW);
        due("26 nothing is held yet", x.put(0, 0, 1), NOTHING);
        due("26 thirty", x.list(0, 30), 1);
        due("26 the last place is 0", x.get(0, 29), 0);
        x.put(0, 1, 5);
        due("26 anew", x.list(0, 2), 1);
        due("26 it is 0 again", x.get(0, 1), 0);
        due("26 it is shorter", x.get(0, 2), NO_PLACE);
        x.put(0, 0, 5);
        x.list(0, 1);
        due("26 the first place is 0 again", x.get(0, 0), 0);
        x.list(0, 2);
        due("26 none", x.list(3, 0), 1);
        due("26 a row of none is held", x.put(3, 0, 1), BEYOND);
        x.put(0, 1, 6);
        due("26 refused", x.list(0, 31), BAD);
        due("26 what is refused changes nothing", x.get(0, 1), 6);
    }

    private static void put() {
        RecurringDays x = new RecurringDays();
        x.list(1, 3);
        for (int list : NO_LISTS) {
            due("27 put(" + list + ", 0, 1)", x.put(list, 0, 1), NONE);
        }
        due("27 nothing", x.put(0, 0, 1), NOTHING);
        due("27 NOTHING is named before BEYOND", x.put(0, -1, 1), NOTHING);
        for (int i : new int[] {-1, 3, 30, LOW, HIGH}) {
            due("27 put(1, " + i + ", 1)", x.put(1, i, 1), BEYOND);
        }
        due("27 put", x.put(1, 2, LOW), 1);
        due("27 it is there", x.get(1, 2), LOW);
        due("27 and nowhere else", x.get(1, 1), 0);
    }

    private static void get() {
        RecurringDays x = new RecurringDays();
        x.list(2, 2);
        x.put(2, 0, 7);
        x.put(2, 1, -9);
        due("28 get(2, 0)", x.get(2, 0), 7);
        due("28 get(2, 1)", x.get(2, 1), -9);
        due("28 nothing there", x.get(1, 0), NO_PLACE);
        for (int list : NO_LISTS) {
            due("28 get(" + list + ", 0)", x.get(list, 0), NO_PLACE);
        }
        for (int i : new int[] {-1, 2, 30, LOW, HIGH}) {
            due("28 get(2, " + i + ")", x.get(2, i), NO_PLACE);
        }
    }

    /** List 0 holds 1 to 5, list 1 three zeros, list 2 none, list 3 nothing. */
    private static RecurringDays lists() {
        RecurringDays x = new RecurringDays();
        x.list(0, 5);
        for (int i = 0; i < 5; i++) {
            x.put(0, i, i + 1);
        }
        x.list(1, 3);
        x.list(2, 0);
        return x;
    }

    private static int shown(RecurringDays x, int list, int n) {
        int shown = 0;
        for (int i = 0; i < n; i++) {
            shown = shown * 10 + x.get(list, i);
        }
        return shown;
    }

    private static void move() {
        RecurringDays x = lists();
        for (int list : NO_LISTS) {
            due("29 move(" + list + ", ..)", x.move(list, 0, 0, 0, 1), NONE);
            due("29 move(0, 0, " + list + ", ..)", x.move(0, 0, list, 0, 1), NONE);
            due("29 NONE is named before NOTHING", x.move(3, 0, list, 0, 1), NONE);
        }
        due("29 nothing in the first", x.move(3, 0, 0, 0, 1), NOTHING);
        due("29 nothing in the other", x.move(0, 0, 3, 0, 1), NOTHING);
        due("29 NOTHING is named before BEYOND", x.move(0, -1, 3, 0, 1), NOTHING);
        int[][] beyond = {{-1, 0, 1}, {0, -1, 1}, {0, 0, -1}, {5, 0, 1}, {3, 0, 3}, {0, 3, 1}, {0, 1, 3}, {6, 0, 0}, {0, 4, 0},
            {HIGH, 0, 1}, {0, HIGH, 1}, {0, 0, HIGH}, {HIGH, HIGH, HIGH}, {1, 1, HIGH}, {LOW, 0, LOW}, {0, 0, LOW}};
        for (int[] b : beyond) {
            due("29 move(0, " + b[0] + ", 1, " + b[1] + ", " + b[2] + ")", x.move(0, b[0], 1, b[1], b[2]), BEYOND);
        }
        due("29 nothing has moved", shown(x, 1, 3), 0);
        due("29 to another", x.move(0, 2, 1, 1, 2), 2);
        due("29 it is there", shown(x, 1, 3), 34);
        due("29 the first stays", shown(x, 0, 5), 12345);
        due("29 none at the ends", x.move(0, 5, 1, 3, 0), 0);
        due("29 none of none", x.move(2, 0, 2, 0, 0), 0);
        due("29 one of none", x.move(2, 0, 0, 0, 1), BEYOND);
        due("29 to the same, later", x.move(0, 0, 0, 1, 4), 4);
        due("29 as they all were before", shown(x, 0, 5), 11234);
        x = lists();
        due("29 to the same, earlier", x.move(0, 1, 0, 0, 4), 4);
        due("29 as they all were before", shown(x, 0, 5), 23455);
    }

    private static void lay() {
        RecurringDays x = three();
        x.list(0, 5);
        refusesPlaces("30 lay", x, true);
        due("30 until there is no more", x.lay(0, 1, 2, 11), 2);
        due("30 the place before", x.get(0, 0), 0);
        due("30 the first", x.get(0, 1), 11);
        due("30 the second", x.get(0, 2), 12);
        due("30 the place behind", x.get(0, 3), 0);
        due("30 until a place isn't there", x.lay(0, 3, 0, 1), 2);
        due("30 the last place", x.get(0, 4), 14);
        due("30 at the end", x.lay(0, 5, 0, 0), 0);
        due("30 of none", x.lay(0, 0, 9, 0), 0);
        due("30 from the day itself", x.lay(0, 0, 0, 714), 1);
        due("30 it is there", x.get(0, 0), 714);
        due("30 it stays", x.get(0, 1), 11);
    }

    private static void refusesPlaces(String call, RecurringDays x, boolean lay) {
        for (int list : NO_LISTS) {
            due(call + "(" + list + ", ..)", place(x, lay, list, 0, 0, 0), NONE);
            due(call + ": NONE before BAD", place(x, lay, list, 0, 0, -1), NONE);
        }
        for (int name : NO_NAMES) {
            due(call + "(0, 0, " + name + ", 0)", place(x, lay, 0, 0, name, 0), NONE);
            due(call + ": NONE before NOTHING", place(x, lay, 3, 0, name, 720), NONE);
        }
        for (int day : NO_DAYS) {
            due(call + "(0, 0, 0, " + day + ")", place(x, lay, 0, 0, 0, day), BAD);
            due(call + ": BAD before NOTHING", place(x, lay, 3, 0, 0, day), BAD);
        }
        due(call + ": NOTHING", place(x, lay, 3, 0, 0, 0), NOTHING);
        due(call + ": NOTHING before BEYOND", place(x, lay, 3, -1, 0, 0), NOTHING);
        for (int i : new int[] {-1, 6, LOW, HIGH}) {
            due(call + "(0, " + i + ", 0, 0)", place(x, lay, 0, i, 0, 0), BEYOND);
        }
    }

    private static int place(RecurringDays x, boolean lay, int list, int i, int name, int day) {
        return lay ? x.lay(list, i, name, day) : x.judge(list, i, name, day);
    }

    private static void judge() {
        RecurringDays x = three();
        x.list(0, 5);
        refusesPlaces("31 judge", x, false);
        due("31 the first place", x.judge(0, 0, 2, 0), 0);
        x.put(0, 1, 11);
        x.put(0, 2, 12);
        due("31 told from that place on", x.judge(0, 1, 2, 11), 2);
        x.put(0, 3, -1);
        due("31 -1 where there is no more", x.judge(0, 1, 2, 11), 3);
        x.put(0, 4, -1);
        due("31 none", x.judge(0, 1, 2, 11), NO_DAY);
        due("31 another day", x.judge(0, 1, 2, 12), 0);
        due("31 at the end", x.judge(0, 5, 2, 0), NO_DAY);
        due("31 -1 and no day at all", x.judge(0, 3, 9, 0), NO_DAY);
        x.list(1, 1);
        x.put(1, 0, 714);
        due("31 to the end of the list", x.judge(1, 0, 0, 708), NO_DAY);
        x.list(1, 2);
        x.extra(2, 719);
        x.put(1, 0, 719);
        x.put(1, 1, -1);
        due("31 behind the last day", x.judge(1, 0, 2, 13), NO_DAY);
        due("31 nothing is changed", x.get(1, 0), 719);
        x.list(1, 2);
        due("31 day 0 is a day", x.judge(1, 0, 0, 0), 1);
        x.put(1, 1, 7);
        due("31 day 0 and the next", x.judge(1, 0, 0, 0), NO_DAY);
        x.put(1, 0, -1);
        due("31 -1 is not day 0", x.judge(1, 0, 0, 0), 0);
    }

    private static void image() {
        RecurringDays x = new RecurringDays();
        due("32 of nothing", x.image(), 0);
        Checks.rule(x, 0, "w0");
        Checks.rule(x, 1, "w0&w1");
        x.count(0, 0, 50);
        x.extra(9, 1);
        due("32 how many have a rule", x.image(), 2);
        due("32 it forgets nothing", x.told(3), 1);
        Checks.rule(x, 0, "w1");
        Checks.rule(x, 2, "w1");
        due("32 anew", x.image(), 3);
        x.drop(0);
        x.undo();
        due("32 the later one counts", x.at(0, 0), 1);
    }

    private static void undo() {
        RecurringDays x = three();
        due("33 there is none", x.undo(), STATE);
        x.out(0, 7);
        x.extra(3, 8);
        x.image();
        Checks.rule(x, 0, "w1");
        x.drop(1);
        Checks.rule(x, 4, "w2");
        x.out(0, 7);
        x.out(0, 14);
        x.extra(3, 8);
        x.extra(4, 9);
        x.count(0, 0, 50);
        x.count(0, 0, 50);
        x.list(0, 2);
        x.put(0, 1, 77);
        Checks.tape(x, "w3");
        due("33 how many have a rule", x.undo(), 3);
        due("33 nothing is remembered", x.told(3), 0);
        due("33 hits stay", x.told(1), 1);
        due("33 misses stay", x.told(2), 1);
        due("33 the tape stays", x.told(4), 2);
        due("33 lists stay", x.get(0, 1), 77);
        due("33 out days", x.told(5), 1);
        due("33 extra days", x.told(6), 1);
        due("33 A's days", x.at(0, 1), 14);
        due("33 B's rule", x.count(1, 0, 719), 48);
        due("33 D's extra day", x.at(3, 0), 8);
        due("33 E has none", x.drop(4), STATE);
        due("33 the rule behind an out day", x.out(0, 7), 0);
        due("33 is as it was", x.at(0, 1), 7);
        x.drop(0);
        due("33 a second time", x.undo(), 3);
        due("33 is as the first", x.at(0, 1), 14);
    }
}
