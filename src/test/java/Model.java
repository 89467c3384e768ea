import java.util.ArrayDeque;
import java.util.ArrayList;
import java.util.Arrays;
import java.util.HashMap;
import java.util.List;
import java.util.Map;
import java.util.TreeSet;
import java.util.function.IntPredicate;

/** The document read in the slowest and plainest way, with the whole Java library: what ModelTest compares with. */
final class Model {
    private static final int NONE = -1, BAD = -2, STATE = -3, FULL = -4, NO_DAY = -5;
    private static final int NOTHING = -11, BEYOND = -13, BELOW = -14, NO_PLACE = -2000000000;

    private static final class Fault extends Exception {
        private static final long serialVersionUID = 1;
        final int place;

        Fault(int place) {
            this.place = place;
        }
    }

    private Map<Integer, TreeSet<Integer>> rules = new HashMap<>();
    private Map<Integer, TreeSet<Integer>> outs = new HashMap<>();
    private Map<Integer, TreeSet<Integer>> extras = new HashMap<>();
    private List<Map<Integer, TreeSet<Integer>>> image;
    private final StringBuilder tape = new StringBuilder();
    private final ArrayDeque<List<Integer>> spans = new ArrayDeque<>();
    private int hits;
    private int misses;
    private final int[][] lists = new int[4][];

    private static boolean within(int value, int least, int most) {
        return value >= least && value <= most;
    }

    private static boolean noName(int name) {
        return !within(name, 0, 9);
    }

    private static boolean noDay(int day) {
        return !within(day, 0, 719);
    }

    private static TreeSet<Integer> all(IntPredicate wanted) {
        TreeSet<Integer> days = new TreeSet<>();
        for (int day = 0; day < 720; day++) {
            if (wanted.test(day)) {
                days.add(day);
            }
        }
        return days;
    }

    private TreeSet<Integer> days(int name) {
        TreeSet<Integer> days = new TreeSet<>(rules.getOrDefault(name, new TreeSet<>()));
        days.addAll(extras.getOrDefault(name, new TreeSet<>()));
        days.removeAll(outs.getOrDefault(name, new TreeSet<>()));
        return days;
    }

    private static int ofList(TreeSet<Integer> days, int i) {
        List<Integer> row = new ArrayList<>(days);
        long place = i < 0 ? (long) row.size() + i : i;
        return place >= 0 && place < row.size() ? row.get((int) place) : NO_DAY;
    }

    private static int block(int block, int day) {
        return block == 0 ? day / 7 : block == 1 ? day / 30 : day / 360;
    }

    private void forget(int name) {
        spans.removeIf(span -> span.get(0) == name);
    }

    // ---- the reading of a text ----

    private String text;
    private int here;

    private char see() throws Fault {
        if (here >= text.length()) {
            throw new Fault(here);
        }
        return text.charAt(here);
    }

    private boolean sees(String signs) {
        return here < text.length() && signs.indexOf(text.charAt(here)) >= 0;
    }

    private void want(String sign) throws Fault {
        see();
        if (!sees(sign)) {
            throw new Fault(here);
        }
        here++;
    }

    private int number(int least, int most) throws Fault {
        int start = here;
        while (here - start < 4 && sees("0123456789")) {
            here++;
        }
        if (here == start) {
            throw new Fault(here);
        }
        int value = Integer.parseInt(text.substring(start, here));
        if (!within(value, least, most)) {
            throw new Fault(start);
        }
        return value;
    }

    private TreeSet<Integer> expression(int brackets) throws Fault {
        TreeSet<Integer> days = term(brackets);
        while (sees("|/")) {
            char sign = text.charAt(here++);
            TreeSet<Integer> more = term(brackets);
            if (sign == '|') {
                days.addAll(more);
            } else {
                days.removeAll(more);
            }
        }
        return days;
    }

    private TreeSet<Integer> term(int brackets) throws Fault {
        TreeSet<Integer> days = factor(brackets);
        while (sees("&")) {
            here++;
            days.retainAll(factor(brackets));
        }
        return days;
    }

    private TreeSet<Integer> factor(int brackets) throws Fault {
        if (!sees("!")) {
            return plain(brackets);
        }
        here++;
        TreeSet<Integer> others = plain(brackets);
        return all(day -> !others.contains(day));
    }

    private TreeSet<Integer> bracket(int brackets) throws Fault {
        want("(");
        TreeSet<Integer> days = expression(brackets + 1);
        want(")");
        return days;
    }

    private TreeSet<Integer> plain(int brackets) throws Fault {
        char letter = see();
        if (brackets == 5 && "(nlsbpx".indexOf(letter) >= 0) {
            throw new Fault(here);
        }
        if (letter == '(') {
            return bracket(brackets);
        }
        if ("wdmyernlsbpxABCDEFGHIJ".indexOf(letter) < 0) {
            throw new Fault(here);
        }
        here++;
        switch (letter) {
            case 'w': { int n = number(0, 6); return all(d -> d % 7 == n); }
            case 'd': { int n = number(1, 30); return all(d -> 1 + d % 30 == n); }
            case 'm': { int n = number(1, 12); return all(d -> 1 + d / 30 % 12 == n); }
            case 'y': { int n = number(0, 1); return all(d -> d / 360 == n); }
            case 'e': {
                int a = number(1, 719);
                want(",");
                int b = number(0, 719);
                return all(d -> d >= b && (d - b) % a == 0);
            }
            case 'r': {
                int a = number(0, 719);
                want(",");
                int b = number(a, 719);
                return all(d -> within(d, a, b));
            }
            case 'n': case 'l': return ofBlocks(letter, brackets);
            case 's': case 'b': case 'p': case 'x': return changed(letter, brackets);
            default: return days(letter - 'A');
        }
    }

    private TreeSet<Integer> ofBlocks(char letter, int brackets) throws Fault {
        int k = number(1, 99);
        see();
        if (!sees("wmy")) {
            throw new Fault(here);
        }
        int block = "wmy".indexOf(text.charAt(here++));
        TreeSet<Integer> days = bracket(brackets);
        TreeSet<Integer> found = new TreeSet<>();
        for (int part = 0; part < 103; part++) {
            List<Integer> row = new ArrayList<>();
            for (int day : days) {
                if (block(block, day) == part) {
                    row.add(day);
                }
            }
            if (k <= row.size()) {
                found.add(letter == 'n' ? row.get(k - 1) : row.get(row.size() - k));
            }
        }
        return found;
    }

    private TreeSet<Integer> changed(char letter, int brackets) throws Fault {
        int k = letter == 'p' ? number(1, 99) : number(letter == 'x' ? 0 : 1, 719);
        List<Integer> row = new ArrayList<>(bracket(brackets));
        TreeSet<Integer> found = new TreeSet<>();
        for (int i = 0; i < row.size(); i++) {
            int day = row.get(i);
            if (letter == 's' && day + k < 720) {
                found.add(day + k);
            } else if (letter == 'b' && day - k >= 0) {
                found.add(day - k);
            } else if (letter == 'p' && (i + 1) % k == 0 || letter == 'x' && i != k) {
                found.add(day);
            }
        }
        return found;
    }

    // ---- the promises ----

    int feed(int letter) {
        if (!within(letter, 1, 127)) {
            return BAD;
        }
        if (tape.length() == 80) {
            return FULL;
        }
        return tape.append((char) letter).length();
    }

    int clear() {
        int had = tape.length();
        tape.setLength(0);
        return had;
    }

    int rule(int name) {
        if (noName(name)) {
            return NONE;
        }
        text = tape.toString();
        here = 0;
        tape.setLength(0);
        try {
            TreeSet<Integer> days = expression(0);
            if (here < text.length()) {
                return -100 - here;
            }
            rules.put(name, days);
            forget(name);
            return days.size();
        } catch (Fault fault) {
            return -100 - fault.place;
        }
    }

    int drop(int name) {
        if (noName(name)) {
            return NONE;
        }
        if (!rules.containsKey(name)) {
            return STATE;
        }
        forget(name);
        return rules.remove(name).size();
    }

    int copy(int name, int other) {
        if (noName(name) || noName(other)) {
            return NONE;
        }
        if (!rules.containsKey(name)) {
            return STATE;
        }
        rules.put(other, new TreeSet<>(rules.get(name)));
        forget(other);
        return rules.get(name).size();
    }

    private int toggle(Map<Integer, TreeSet<Integer>> marks, int name, int day) {
        if (noName(name)) {
            return NONE;
        }
        if (noDay(day)) {
            return BAD;
        }
        TreeSet<Integer> days = marks.computeIfAbsent(name, n -> new TreeSet<>());
        if (!days.remove(day)) {
            if (days.size() == 7) {
                return FULL;
            }
            days.add(day);
        }
        forget(name);
        return days.size();
    }

    int out(int name, int day) {
        return toggle(outs, name, day);
    }

    int extra(int name, int day) {
        return toggle(extras, name, day);
    }

    int has(int name, int day) {
        return noName(name) ? NONE : noDay(day) ? BAD : days(name).contains(day) ? 1 : 0;
    }

    private static int orNoDay(Integer day) {
        return day == null ? NO_DAY : day;
    }

    int next(int name, int day) {
        return noName(name) ? NONE : noDay(day) ? BAD : orNoDay(days(name).ceiling(day));
    }

    int ahead(int name, int day) {
        return noName(name) ? NONE : noDay(day) ? BAD : orNoDay(days(name).floor(day));
    }

    int at(int name, int i) {
        return noName(name) ? NONE : ofList(days(name), i);
    }

    int count(int name, int from, int to) {
        if (noName(name)) {
            return NONE;
        }
        if (noDay(from) || noDay(to) || to < from) {
            return BAD;
        }
        int held = days(name).subSet(from, true, to, true).size();
        List<Integer> span = List.of(name, from, to, held);
        if (spans.remove(span)) {
            hits++;
        } else {
            misses++;
        }
        spans.addLast(span);
        if (spans.size() == 7) {
            spans.removeFirst();
        }
        return held;
    }

    int gap(int name) {
        if (noName(name)) {
            return NONE;
        }
        List<Integer> edges = new ArrayList<>(days(name));
        edges.add(0, -1);
        edges.add(720);
        int most = 0;
        for (int i = 1; i < edges.size(); i++) {
            most = Math.max(most, edges.get(i) - edges.get(i - 1) - 1);
        }
        return most;
    }

    int period(int name) {
        if (noName(name)) {
            return NONE;
        }
        TreeSet<Integer> days = days(name);
        for (int p = 1; p <= 360; p++) {
            boolean again = true;
            for (int d = 0; d < 720 - p; d++) {
                again = again && days.contains(d) == days.contains(d + p);
            }
            if (again) {
                return p;
            }
        }
        return NO_DAY;
    }

    int clash(int name, int other, int day) {
        if (noName(name) || noName(other)) {
            return NONE;
        }
        if (noDay(day)) {
            return BAD;
        }
        TreeSet<Integer> both = days(name);
        both.retainAll(days(other));
        return orNoDay(both.ceiling(day));
    }

    int unlike(int name, int other) {
        if (noName(name) || noName(other)) {
            return NONE;
        }
        TreeSet<Integer> ours = days(name);
        TreeSet<Integer> theirs = days(other);
        return orNoDay(all(d -> ours.contains(d) != theirs.contains(d)).ceiling(0));
    }

    private TreeSet<Integer> union(int set) {
        TreeSet<Integer> union = new TreeSet<>();
        for (int name = 0; name < 10; name++) {
            if ((set & 1 << name) != 0) {
                union.addAll(days(name));
            }
        }
        return union;
    }

    int merged(int set, int i) {
        if (!within(set, 0, 1023)) {
            return BAD;
        }
        if (i < -1) {
            return NONE;
        }
        return i == -1 ? union(set).size() : ofList(union(set), i);
    }

    int whose(int set, int i) {
        if (!within(set, 0, 1023)) {
            return BAD;
        }
        if (i < 0) {
            return NONE;
        }
        int day = ofList(union(set), i);
        int bits = 0;
        for (int name = 0; name < 10; name++) {
            if ((set & 1 << name) != 0 && days(name).contains(day)) {
                bits |= 1 << name;
            }
        }
        return bits;
    }

    int busiest(int from, int to, int what) {
        if (noDay(from) || noDay(to) || to < from) {
            return BAD;
        }
        if (!within(what, 0, 1)) {
            return NONE;
        }
        int[] owners = new int[720];
        for (int name = 0; name < 10; name++) {
            for (int day : days(name)) {
                owners[day]++;
            }
        }
        int most = Arrays.stream(owners, from, to + 1).max().getAsInt();
        if (most == 0) {
            return what == 0 ? NO_DAY : 0;
        }
        int day = from;
        while (owners[day] != most) {
            day++;
        }
        return what == 0 ? day : most;
    }

    int free(int set, int day, int n) {
        if (!within(set, 0, 1023) || noDay(day) || !within(n, 1, 99)) {
            return BAD;
        }
        TreeSet<Integer> union = union(set);
        for (int first = day; first + n <= 720; first++) {
            if (union.subSet(first, first + n).isEmpty()) {
                return first;
            }
        }
        return NO_DAY;
    }

    int parts(int name, int block, int i) {
        if (noName(name) || !within(block, 0, 2) || !within(i, 0, new int[] {102, 23, 1}[block])) {
            return NONE;
        }
        return (int) days(name).stream().filter(d -> block(block, d) == i).count();
    }

    int nth(int name, int block, int k, int day) {
        if (noName(name) || !within(block, 0, 2)) {
            return NONE;
        }
        if (noDay(day)) {
            return BAD;
        }
        TreeSet<Integer> days = days(name);
        days.removeIf(d -> block(block, d) != block(block, day));
        return ofList(days, k);
    }

    int told(int what) {
        switch (what) {
            case 0: return rules.size();
            case 1: return hits;
            case 2: return misses;
            case 3: return spans.size();
            case 4: return tape.length();
            case 5: return outs.values().stream().mapToInt(TreeSet::size).sum();
            case 6: return extras.values().stream().mapToInt(TreeSet::size).sum();
            default: return NONE;
        }
    }

    int remembered(int i, int what) {
        List<List<Integer>> row = new ArrayList<>(spans);
        return within(i, 0, row.size() - 1) && within(what, 0, 3) ? row.get(i).get(what) : NONE;
    }

    int list(int list, int n) {
        if (!within(list, 0, 3)) {
            return NONE;
        }
        if (n > 30) {
            return BAD;
        }
        if (n < 0) {
            return BELOW;
        }
        lists[list] = new int[n];
        return 1;
    }

    int put(int list, int i, int v) {
        if (!within(list, 0, 3)) {
            return NONE;
        }
        if (lists[list] == null) {
            return NOTHING;
        }
        if (!within(i, 0, lists[list].length - 1)) {
            return BEYOND;
        }
        lists[list][i] = v;
        return 1;
    }

    int get(int list, int i) {
        boolean there = within(list, 0, 3) && lists[list] != null && within(i, 0, lists[list].length - 1);
        return there ? lists[list][i] : NO_PLACE;
    }

    int move(int list, int i, int other, int j, int n) {
        if (!within(list, 0, 3) || !within(other, 0, 3)) {
            return NONE;
        }
        if (lists[list] == null || lists[other] == null) {
            return NOTHING;
        }
        if (n < 0 || i < 0 || j < 0 || (long) i + n > lists[list].length || (long) j + n > lists[other].length) {
            return BEYOND;
        }
        int[] before = lists[list].clone();
        for (int place = 0; place < n; place++) {
            lists[other][j + place] = before[i + place];
        }
        return n;
    }

    private int refusal(int list, int i, int name, int day) {
        if (!within(list, 0, 3) || noName(name)) {
            return NONE;
        }
        if (noDay(day)) {
            return BAD;
        }
        if (lists[list] == null) {
            return NOTHING;
        }
        return within(i, 0, lists[list].length) ? 0 : BEYOND;
    }

    int lay(int list, int i, int name, int day) {
        int refusal = refusal(list, i, name, day);
        if (refusal != 0) {
            return refusal;
        }
        List<Integer> row = new ArrayList<>(days(name).tailSet(day));
        int laid = Math.min(row.size(), lists[list].length - i);
        for (int place = 0; place < laid; place++) {
            lists[list][i + place] = row.get(place);
        }
        return laid;
    }

    int judge(int list, int i, int name, int day) {
        int refusal = refusal(list, i, name, day);
        if (refusal != 0) {
            return refusal;
        }
        List<Integer> row = new ArrayList<>(days(name).tailSet(day));
        for (int place = 0; i + place < lists[list].length; place++) {
            if (lists[list][i + place] != (place < row.size() ? row.get(place) : -1)) {
                return place;
            }
        }
        return NO_DAY;
    }

    private static Map<Integer, TreeSet<Integer>> copied(Map<Integer, TreeSet<Integer>> sets) {
        Map<Integer, TreeSet<Integer>> copy = new HashMap<>();
        sets.forEach((name, days) -> copy.put(name, new TreeSet<>(days)));
        return copy;
    }

    int image() {
        image = List.of(copied(rules), copied(outs), copied(extras));
        return rules.size();
    }

    int undo() {
        if (image == null) {
            return STATE;
        }
        rules = copied(image.get(0));
        outs = copied(image.get(1));
        extras = copied(image.get(2));
        spans.clear();
        return rules.size();
    }
}
