import java.util.Random;

/** Runs of random calls (the same at every start), each answer compared with the model's. */
public final class ModelTest {
    private static final int RUNS = 3000;
    /** What the document promises; and the calls of the longest step, which is a text with its rule(). */
    private static final int CALLS = 512, LONGEST_STEP = 91;
    private static final int[] EDGES = {-1000, -6, -5, -2, -1, 0, 1, 2, 3, 6, 7, 9, 10, 22, 23, 24, 29, 30, 31, 99, 100, 101, 102, 103,
        359, 360, 361, 718, 719, 720, 1023, 1024, 1 << 30, Integer.MAX_VALUE, Integer.MAX_VALUE - 1, Integer.MIN_VALUE,
        Integer.MIN_VALUE + 1};

    private static final Checks CHECKS = new Checks();

    private final Random random;
    private final int run;
    private final RecurringDays x = new RecurringDays();
    private final Model model = new Model();
    private int calls;

    private ModelTest(int run) {
        this.run = run;
        random = new Random(run);
    }

    public static void main(String[] args) {
        for (int run = 0; run < RUNS && CHECKS.wrongs() == 0; run++) {
            new ModelTest(run).go();
        }
        CHECKS.end("ModelTest");
    }

    /** Each fourth run looks most at texts, at names, at sets and spans, at lists: otherwise feed() is nearly all there is. */
    private void go() {
        int most = run % 4;
        if (most != 0) {
            tellFirstRules();
        }
        while (calls + LONGEST_STEP <= CALLS && CHECKS.wrongs() == 0) {
            if (random.nextInt(most == 0 ? 8 : 60) == 0) {
                tellRule(sum(0), name());
            } else if (most == 0 || random.nextInt(4) == 0) {
                call(2 + random.nextInt(31));
            } else {
                call(most == 1 ? 7 + random.nextInt(11) : most == 2 ? 18 + random.nextInt(8) : 27 + random.nextInt(5));
            }
        }
    }

    private void tellFirstRules() {
        for (int name = 0; name < 3; name++) {
            tellRule(random.nextInt(3) == 0 ? "r0," + number(0, 30) : plain(6), name);
        }
        for (int list = 0; list < 4; list++) {
            int n = random.nextInt(9);
            due("list(" + list + ", " + n + ")", x.list(list, n), model.list(list, n));
        }
    }

    private void due(String call, int got, int want) {
        calls++;
        CHECKS.due("run " + run + ", call " + calls + ", " + call, got, want);
    }

    private int pick(int least, int most) {
        if (random.nextInt(40) == 0) {
            return EDGES[random.nextInt(EDGES.length)];
        }
        if (random.nextInt(30) == 0) {
            return random.nextBoolean() ? least - 1 : most + 1;
        }
        return random.nextInt(12) == 0 ? random.nextBoolean() ? least : most : least + random.nextInt(most - least + 1);
    }

    private int name() {
        return pick(0, random.nextInt(3) == 0 ? 9 : 2);
    }

    private int day() {
        return pick(0, random.nextInt(3) == 0 ? 40 : 719);
    }

    /** Few spans, so that some are asked for again. */
    private int end(int from) {
        return random.nextInt(3) == 0 ? day() : from + 10 * pick(0, 1);
    }

    private void feed(int letter) {
        due("feed(" + letter + ")", x.feed(letter), model.feed(letter));
    }

    private void tellRule(String told, int name) {
        String text = random.nextInt(4) == 0 ? spoilt(told) : told;
        for (int i = 0; i < text.length() && i < LONGEST_STEP - 1; i++) {
            feed(text.charAt(i));
        }
        due("rule(" + name + ") of " + text, x.rule(name), model.rule(name));
    }

    private String spoilt(String text) {
        StringBuilder spoilt = new StringBuilder(text);
        int place = random.nextInt(text.length() + 1);
        String signs = "wdmyernlsbpxABJK!()|/&,0123456789 ";
        char sign = signs.charAt(random.nextInt(signs.length()));
        switch (random.nextInt(3)) {
            case 0: return spoilt.insert(place, sign).toString();
            case 1: return text.substring(0, place);
            default:
                if (place < text.length()) {
                    spoilt.deleteCharAt(place);
                }
                return spoilt.toString();
        }
    }

    private String sum(int depth) {
        StringBuilder text = new StringBuilder(product(depth));
        while (random.nextInt(3) == 0) {
            text.append(random.nextBoolean() ? '|' : '/').append(product(depth));
        }
        return text.toString();
    }

    private String product(int depth) {
        StringBuilder text = new StringBuilder(factor(depth));
        while (random.nextInt(4) == 0) {
            text.append('&').append(factor(depth));
        }
        return text.toString();
    }

    private String factor(int depth) {
        return (random.nextInt(5) == 0 ? "!" : "") + plain(depth);
    }

    private int number(int least, int most) {
        int sort = random.nextInt(100);
        if (sort == 0) {
            return random.nextBoolean() ? most + 1 : Math.max(0, least - 1);
        }
        return sort < 15 ? random.nextBoolean() ? least : most : least + random.nextInt(most - least + 1);
    }

    private String plain(int depth) {
        boolean deeper = depth < 6 && random.nextInt(4 + depth) < 4;
        String zero = random.nextInt(20) == 0 ? "0" : "";
        if (!deeper) {
            switch (random.nextInt(8)) {
                case 0: return "w" + zero + number(0, 6);
                case 1: return "d" + zero + number(1, 30);
                case 2: return "m" + zero + number(1, 12);
                case 3: return "y" + zero + number(0, 1);
                case 4: return "e" + zero + number(1, random.nextBoolean() ? 9 : 719) + "," + number(0, 719);
                case 5: { int a = number(0, 719); return "r" + a + "," + number(Math.min(a, 719), 719); }
                default: return String.valueOf((char) ('A' + random.nextInt(random.nextBoolean() ? 3 : 10)));
            }
        }
        String inner = "(" + sum(depth + 1) + ")";
        String block = String.valueOf("wmy".charAt(random.nextInt(3)));
        switch (random.nextInt(7)) {
            case 0: return "n" + number(1, random.nextInt(3) == 0 ? 99 : 5) + block + inner;
            case 1: return "l" + number(1, random.nextInt(3) == 0 ? 99 : 5) + block + inner;
            case 2: return "s" + number(1, random.nextInt(3) == 0 ? 719 : 70) + inner;
            case 3: return "b" + number(1, random.nextInt(3) == 0 ? 719 : 70) + inner;
            case 4: return "p" + number(1, random.nextInt(3) == 0 ? 99 : 5) + inner;
            case 5: return "x" + number(0, random.nextInt(3) == 0 ? 719 : 5) + inner;
            default: return inner;
        }
    }

    private void call(int promise) {
        if (promise <= 17) {
            callOfNames(promise);
        } else if (promise <= 25) {
            callOfSets(promise);
        } else {
            callOfLists(promise);
        }
    }

    private void callOfNames(int promise) {
        int name = name();
        int other = name();
        int day = day();
        int i = pick(-4, 4);
        int to = end(day);
        String names = "(" + name + ", " + other + ", " + day + ") or i " + i + " or to " + to;
        switch (promise) {
            case 2: feed(pick(1, 127)); break;
            case 3: due("clear()", x.clear(), model.clear()); break;
            case 4: due("rule" + names, x.rule(name), model.rule(name)); break;
            case 5: due("drop" + names, x.drop(name), model.drop(name)); break;
            case 6: due("copy" + names, x.copy(name, other), model.copy(name, other)); break;
            case 7: due("out" + names, x.out(name, day), model.out(name, day)); break;
            case 8: due("extra" + names, x.extra(name, day), model.extra(name, day)); break;
            case 9: due("has" + names, x.has(name, day), model.has(name, day)); break;
            case 10: due("next" + names, x.next(name, day), model.next(name, day)); break;
            case 11: due("ahead" + names, x.ahead(name, day), model.ahead(name, day)); break;
            case 12: due("at" + names, x.at(name, i), model.at(name, i)); break;
            case 13: due("count" + names, x.count(name, day, to), model.count(name, day, to)); break;
            case 14: due("gap" + names, x.gap(name), model.gap(name)); break;
            case 15: due("period" + names, x.period(name), model.period(name)); break;
            case 16: due("clash" + names, x.clash(name, other, day), model.clash(name, other, day)); break;
            default: due("unlike" + names, x.unlike(name, other), model.unlike(name, other)); break;
        }
    }

    private void callOfSets(int promise) {
        int set = pick(0, 1023);
        int i = pick(-1, random.nextBoolean() ? 5 : 400);
        int day = day();
        int to = end(day);
        int name = name();
        int block = pick(0, 2);
        int part = pick(0, block == 0 ? 102 : block == 1 ? 23 : 1);
        int what = pick(0, promise == 20 ? 1 : promise == 24 ? 6 : 3);
        int n = pick(1, random.nextBoolean() ? 9 : 99);
        int span = pick(0, 5);
        String all = "set " + set + ", i " + i + ", day " + day + ", to " + to + ", name " + name + ", block " + block + ", part " + part
            + ", what " + what + ", n " + n + ", span " + span;
        switch (promise) {
            case 18: due("merged, " + all, x.merged(set, i), model.merged(set, i)); break;
            case 19: due("whose, " + all, x.whose(set, i), model.whose(set, i)); break;
            case 20: due("busiest, " + all, x.busiest(day, to, what), model.busiest(day, to, what)); break;
            case 21: due("free, " + all, x.free(set, day, n), model.free(set, day, n)); break;
            case 22: due("parts, " + all, x.parts(name, block, part), model.parts(name, block, part)); break;
            case 23: due("nth, " + all, x.nth(name, block, i, day), model.nth(name, block, i, day)); break;
            case 24: due("told, " + all, x.told(what), model.told(what)); break;
            default: due("remembered, " + all, x.remembered(span, what), model.remembered(span, what)); break;
        }
    }

    private void callOfLists(int promise) {
        int list = pick(0, 3);
        int other = random.nextInt(3) == 0 ? list : pick(0, 3);
        int i = pick(0, 12);
        int j = pick(0, 12);
        int n = pick(0, random.nextInt(3) == 0 ? 30 : 10);
        int v = pick(-3, 5);
        int name = name();
        int day = day();
        String all = "list " + list + ", i " + i + ", other " + other + ", j " + j + ", n " + n + ", v " + v + ", name " + name + ", day "
            + day;
        switch (promise) {
            case 26: due("list, " + all, x.list(list, n), model.list(list, n)); break;
            case 27: due("put, " + all, x.put(list, i, v), model.put(list, i, v)); break;
            case 28: due("get, " + all, x.get(list, i), model.get(list, i)); break;
            case 29: due("move, " + all, x.move(list, i, other, j, n), model.move(list, i, other, j, n)); break;
            case 30:
                due("lay, " + all, x.lay(list, i, name, day), model.lay(list, i, name, day));
                if (random.nextInt(4) != 0) {
                    int place = random.nextInt(10);
                    due("put " + place + ", " + all, x.put(list, place, v), model.put(list, place, v));
                }
                if (random.nextInt(4) != 0) {
                    due("judge, " + all, x.judge(list, i, name, day), model.judge(list, i, name, day));
                }
                break;
            case 31: due("judge, " + all, x.judge(list, i, name, day), model.judge(list, i, name, day)); break;
            default:
                if (random.nextInt(3) == 0) {
                    due("image", x.image(), model.image());
                } else {
                    due("undo", x.undo(), model.undo());
                }
        }
    }
}
