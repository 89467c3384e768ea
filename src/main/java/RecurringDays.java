/** Names with rules over a calendar of 720 days; the document's promises are told beside each method by number. */
public final class RecurringDays {
    public static final int NONE = -1, BAD = -2, STATE = -3, FULL = -4;

    private static final int NO_DAY = -5;
    private static final int NOTHING = -11;
    private static final int BEYOND = -13;
    private static final int BELOW = -14;
    private static final int NO_PLACE = -2000000000;
    private static final int FAULT = -100;

    private static final int DAYS = 720;
    private static final int NAMES = 10;
    private static final int SETS = 1 << NAMES;
    private static final int LISTS = 4;
    private static final int PLACES = 30;
    private static final int MARKS = 7;
    private static final int LONGEST_PERIOD = 360;
    private static final int LONGEST_FREE = 99;
    private static final int[] BLOCK_LENGTHS = {7, 30, 360};

    private final Plan[] plans = new Plan[NAMES];
    private final Plan[] saved = new Plan[NAMES];
    private boolean imaged;
    private final Reader reader = new Reader();
    private final Memory memory = new Memory();
    private final Row[] rows = new Row[LISTS];
    private final Days joined = new Days();

    /** Promise 1. Every row is made here, so that no later call makes an object. */
    public RecurringDays() {
        for (int name = 0; name < NAMES; name++) {
            plans[name] = new Plan();
            saved[name] = new Plan();
        }
        for (int list = 0; list < LISTS; list++) {
            rows[list] = new Row();
        }
    }

    /** Promise 2. */
    public int feed(int letter) {
        if (letter < 1 || letter > 127) {
            return BAD;
        }
        return reader.append(letter);
    }

    /** Promise 3. */
    public int clear() {
        return reader.empty();
    }

    /** Promise 4. */
    public int rule(int name) {
        if (!isName(name)) {
            return NONE;
        }
        Days read = reader.read(plans);
        int fault = reader.place;
        reader.empty();
        if (read == null) {
            return FAULT - fault;
        }
        plans[name].become(true, read);
        memory.forget(name);
        return read.size();
    }

    /** Promise 5. */
    public int drop(int name) {
        if (!isName(name)) {
            return NONE;
        }
        Plan plan = plans[name];
        if (!plan.ruled) {
            return STATE;
        }
        int had = plan.rule.size();
        plan.unrule();
        memory.forget(name);
        return had;
    }

    /** Promise 6. */
    public int copy(int name, int other) {
        if (!isName(name) || !isName(other)) {
            return NONE;
        }
        Plan plan = plans[name];
        if (!plan.ruled) {
            return STATE;
        }
        plans[other].become(true, plan.rule);
        memory.forget(other);
        return plan.rule.size();
    }

    /** Promise 7. */
    public int out(int name, int day) {
        if (!isName(name)) {
            return NONE;
        }
        return toggle(name, plans[name].out, day);
    }

    /** Promise 8. */
    public int extra(int name, int day) {
        if (!isName(name)) {
            return NONE;
        }
        return toggle(name, plans[name].extra, day);
    }

    /** Promise 9. */
    public int has(int name, int day) {
        if (!isName(name)) {
            return NONE;
        }
        if (!isDay(day)) {
            return BAD;
        }
        return plans[name].days.holds(day) ? 1 : 0;
    }

    /** Promise 10. */
    public int next(int name, int day) {
        if (!isName(name)) {
            return NONE;
        }
        if (!isDay(day)) {
            return BAD;
        }
        return plans[name].days.pick(day, DAYS - 1, 0);
    }

    /** Promise 11. */
    public int ahead(int name, int day) {
        if (!isName(name)) {
            return NONE;
        }
        if (!isDay(day)) {
            return BAD;
        }
        return plans[name].days.pick(0, day, -1);
    }

    /** Promise 12. */
    public int at(int name, int i) {
        if (!isName(name)) {
            return NONE;
        }
        return plans[name].days.pick(0, DAYS - 1, i);
    }

    /** Promise 13. */
    public int count(int name, int from, int to) {
        if (!isName(name)) {
            return NONE;
        }
        if (!isSpan(from, to)) {
            return BAD;
        }
        int held = plans[name].days.heldWithin(from, to);
        memory.ask(name, from, to, held);
        return held;
    }

    /** Promise 14. */
    public int gap(int name) {
        if (!isName(name)) {
            return NONE;
        }
        Days days = plans[name].days;
        int longest = 0;
        int run = 0;
        for (int day = 0; day < DAYS; day++) {
            run = days.holds(day) ? 0 : run + 1;
            longest = Math.max(longest, run);
        }
        return longest;
    }

    /** Promise 15. */
    public int period(int name) {
        if (!isName(name)) {
            return NONE;
        }
        for (int length = 1; length <= LONGEST_PERIOD; length++) {
            if (plans[name].days.comesAgainAfter(length)) {
                return length;
            }
        }
        return NO_DAY;
    }

    /** Promise 16. */
    public int clash(int name, int other, int day) {
        if (!isName(name) || !isName(other)) {
            return NONE;
        }
        if (!isDay(day)) {
            return BAD;
        }
        Days ours = plans[name].days;
        Days theirs = plans[other].days;
        for (int at = day; at < DAYS; at++) {
            if (ours.holds(at) && theirs.holds(at)) {
                return at;
            }
        }
        return NO_DAY;
    }

    /** Promise 17. */
    public int unlike(int name, int other) {
        if (!isName(name) || !isName(other)) {
            return NONE;
        }
        Days ours = plans[name].days;
        Days theirs = plans[other].days;
        for (int day = 0; day < DAYS; day++) {
            if (ours.holds(day) != theirs.holds(day)) {
                return day;
            }
        }
        return NO_DAY;
    }

    /** Promise 18. */
    public int merged(int set, int i) {
        if (!isSet(set)) {
            return BAD;
        }
        if (i < -1) {
            return NONE;
        }
        join(set);
        return i == -1 ? joined.size() : joined.pick(0, DAYS - 1, i);
    }

    /** Promise 19. */
    public int whose(int set, int i) {
        if (!isSet(set)) {
            return BAD;
        }
        if (i < 0) {
            return NONE;
        }
        join(set);
        return ownersOf(joined.pick(0, DAYS - 1, i)) & set;
    }

    /** Promise 20. */
    public int busiest(int from, int to, int what) {
        if (!isSpan(from, to)) {
            return BAD;
        }
        if (what != 0 && what != 1) {
            return NONE;
        }
        int best = NO_DAY;
        int most = 0;
        for (int day = from; day <= to; day++) {
            int owners = Integer.bitCount(ownersOf(day));
            if (owners > most) {
                best = day;
                most = owners;
            }
        }
        return what == 0 ? best : most;
    }

    /** Promise 21. */
    public int free(int set, int day, int n) {
        if (!isSet(set) || !isDay(day) || n < 1 || n > LONGEST_FREE) {
            return BAD;
        }
        join(set);
        int run = 0;
        for (int last = day; last < DAYS; last++) {
            run = joined.holds(last) ? 0 : run + 1;
            if (run == n) {
                return last - n + 1;
            }
        }
        return NO_DAY;
    }

    /** Promise 22. */
    public int parts(int name, int block, int i) {
        if (!isName(name) || !isBlock(block)) {
            return NONE;
        }
        int length = BLOCK_LENGTHS[block];
        // In long, as a great i times the length would wrap round to a DAY again.
        long first = (long) i * length;
        if (first < 0 || first >= DAYS) {
            return NONE;
        }
        return plans[name].days.heldWithin((int) first, lastOfBlock((int) first, length));
    }

    /** Promise 23. */
    public int nth(int name, int block, int k, int day) {
        if (!isName(name) || !isBlock(block)) {
            return NONE;
        }
        if (!isDay(day)) {
            return BAD;
        }
        int length = BLOCK_LENGTHS[block];
        int first = length < 1 ? day : day / length * length;
        return plans[name].days.pick(first, lastOfBlock(first, length), k);
    }

    /** Promise 24. */
    public int told(int what) {
        switch (what) {
            case 0:
                return ruledNames();
            case 1:
                return memory.hits;
            case 2:
                return memory.misses;
            case 3:
                return memory.kept;
            case 4:
                return reader.length;
            case 5:
                return daysOutOfAll();
            case 6:
                return extraDaysOfAll();
            default:
                return NONE;
        }
    }

    /** Promise 25. */
    public int remembered(int i, int what) {
        if (i < 0 || i >= memory.kept || what < 0 || what >= Memory.PARTS) {
            return NONE;
        }
        return memory.spans[i][what];
    }

    /** Promise 26. */
    public int list(int list, int n) {
        if (!isList(list)) {
            return NONE;
        }
        if (n > PLACES) {
            return BAD;
        }
        if (n < 0) {
            return BELOW;
        }
        rows[list].begin(n);
        return 1;
    }

    /** Promise 27. */
    public int put(int list, int i, int v) {
        if (!isList(list)) {
            return NONE;
        }
        Row row = rows[list];
        if (!row.held) {
            return NOTHING;
        }
        if (i < 0 || i >= row.size) {
            return BEYOND;
        }
        row.places[i] = v;
        return 1;
    }

    /** Promise 28. */
    public int get(int list, int i) {
        if (!isList(list)) {
            return NO_PLACE;
        }
        Row row = rows[list];
        if (!row.held || i < 0 || i >= row.size) {
            return NO_PLACE;
        }
        return row.places[i];
    }

    /** Promise 29. */
    public int move(int list, int i, int other, int j, int n) {
        if (!isList(list) || !isList(other)) {
            return NONE;
        }
        Row from = rows[list];
        Row to = rows[other];
        if (!from.held || !to.held) {
            return NOTHING;
        }
        // n is taken from the size, not added to i or j: that sum could wrap round.
        if (n < 0 || i < 0 || j < 0 || i > from.size - n || j > to.size - n) {
            return BEYOND;
        }
        System.arraycopy(from.places, i, to.places, j, n);
        return n;
    }

    /** Promise 30. */
    public int lay(int list, int i, int name, int day) {
        int refusal = refusalOf(list, i, name, day);
        if (refusal != 0) {
            return refusal;
        }
        Row row = rows[list];
        Days days = plans[name].days;
        int place = i;
        for (int at = day; at < DAYS && place < row.size; at++) {
            if (days.holds(at)) {
                row.places[place] = at;
                place++;
            }
        }
        return place - i;
    }

    /** Promise 31. */
    public int judge(int list, int i, int name, int day) {
        int refusal = refusalOf(list, i, name, day);
        if (refusal != 0) {
            return refusal;
        }
        Row row = rows[list];
        Days days = plans[name].days;
        int start = day;
        for (int place = i; place < row.size; place++) {
            int found = days.pick(start, DAYS - 1, 0);
            int due = found < 0 ? -1 : found;
            if (row.places[place] != due) {
                return place - i;
            }
            start = found < 0 ? DAYS : found + 1;
        }
        return NO_DAY;
    }

    /** Promise 32. */
    public int image() {
        for (int name = 0; name < NAMES; name++) {
            saved[name].take(plans[name]);
        }
        imaged = true;
        return ruledNames();
    }

    /** Promise 33. */
    public int undo() {
        if (!imaged) {
            return STATE;
        }
        for (int name = 0; name < NAMES; name++) {
            plans[name].take(saved[name]);
        }
        memory.forgetAll();
        return ruledNames();
    }

    private static boolean isName(int name) {
        return name >= 0 && name < NAMES;
    }

    private static boolean isDay(int day) {
        return day >= 0 && day < DAYS;
    }

    private static boolean isSpan(int from, int to) {
        return isDay(from) && isDay(to) && from <= to;
    }

    private static boolean isSet(int set) {
        return set >= 0 && set < SETS;
    }

    private static boolean isBlock(int block) {
        return block >= 0 && block < BLOCK_LENGTHS.length;
    }

    private static boolean isList(int list) {
        return list >= 0 && list < LISTS;
    }

    private static int lastOfBlock(int first, int length) {
        return Math.min(first + length, DAYS) - 1;
    }

    private int toggle(int name, Days marks, int day) {
        if (!isDay(day)) {
            return BAD;
        }
        if (marks.holds(day)) {
            marks.remove(day);
        } else if (marks.size() >= MARKS) {
            return FULL;
        } else {
            marks.add(day);
        }
        plans[name].refresh();
        memory.forget(name);
        return marks.size();
    }

    /** Puts the DAYS of any NAME of the set into joined. */
    private void join(int set) {
        joined.wipe();
        for (int name = 0; name < NAMES; name++) {
            if ((set >> name & 1) != 0) {
                joined.addAll(plans[name].days);
            }
        }
    }

    /** Which NAMES have the day, as bits; none has what isn't a DAY. */
    private int ownersOf(int day) {
        int owners = 0;
        for (int name = 0; name < NAMES; name++) {
            if (plans[name].days.holds(day)) {
                owners |= 1 << name;
            }
        }
        return owners;
    }

    private int ruledNames() {
        int ruled = 0;
        for (int name = 0; name < NAMES; name++) {
            if (plans[name].ruled) {
                ruled++;
            }
        }
        return ruled;
    }

    private int daysOutOfAll() {
        int total = 0;
        for (int name = 0; name < NAMES; name++) {
            total += plans[name].out.size();
        }
        return total;
    }

    private int extraDaysOfAll() {
        int total = 0;
        for (int name = 0; name < NAMES; name++) {
            total += plans[name].extra.size();
        }
        return total;
    }

    /** What lay() and judge() answer when they can't begin; 0 when they can. */
    private int refusalOf(int list, int i, int name, int day) {
        if (!isList(list) || !isName(name)) {
            return NONE;
        }
        if (!isDay(day)) {
            return BAD;
        }
        Row row = rows[list];
        if (!row.held) {
            return NOTHING;
        }
        return i < 0 || i > row.size ? BEYOND : 0;
    }

    /** A set of DAYS. Words of 60 bits, as twelve of them are 720 DAYS and none is used in part. */
    private static final class Days {
        static final int WORDS = 12;
        static final int BITS = 60;
        static final long ALL = (1L << BITS) - 1;

        final long[] words = new long[WORDS];

        boolean holds(int day) {
            return isDay(day) && (words[day / BITS] >> day % BITS & 1L) != 0;
        }

        void add(int day) {
            if (isDay(day)) {
                words[day / BITS] |= 1L << day % BITS;
            }
        }

        void remove(int day) {
            if (isDay(day)) {
                words[day / BITS] &= ~(1L << day % BITS);
            }
        }

        void wipe() {
            for (int word = 0; word < WORDS; word++) {
                words[word] = 0;
            }
        }

        void become(Days other) {
            for (int word = 0; word < WORDS; word++) {
                words[word] = other.words[word];
            }
        }

        void addAll(Days other) {
            for (int word = 0; word < WORDS; word++) {
                words[word] |= other.words[word];
            }
        }

        void removeAll(Days other) {
            for (int word = 0; word < WORDS; word++) {
                words[word] &= ~other.words[word];
            }
        }

        void keepAll(Days other) {
            for (int word = 0; word < WORDS; word++) {
                words[word] &= other.words[word];
            }
        }

        void invert() {
            for (int word = 0; word < WORDS; word++) {
                words[word] ^= ALL;
            }
        }

        int size() {
            int size = 0;
            for (int word = 0; word < WORDS; word++) {
                size += Long.bitCount(words[word]);
            }
            return size;
        }

        int heldWithin(int from, int to) {
            int held = 0;
            for (int day = from; day <= to && day < DAYS; day++) {
                if (holds(day)) {
                    held++;
                }
            }
            return held;
        }

        /** The k-th (0 the first; below 0 from the end) of the DAYS in a span, or NO_DAY. */
        int pick(int from, int to, int k) {
            int left = k;
            if (k >= 0) {
                for (int day = from; day <= to && day < DAYS; day++) {
                    if (holds(day) && left-- == 0) {
                        return day;
                    }
                }
                return NO_DAY;
            }
            for (int day = to; day >= from && day >= 0; day--) {
                if (holds(day) && ++left == 0) {
                    return day;
                }
            }
            return NO_DAY;
        }

        void addSpan(int from, int to) {
            for (int day = from; day <= to && day < DAYS; day++) {
                add(day);
            }
        }

        void addEach(int step, int from) {
            for (int day = from; day < DAYS && step > 0; day += step) {
                add(day);
            }
        }

        /** Adds what the other set has, so many days later (earlier: below 0); what leaves the calendar is lost. */
        void addMoved(Days other, int later) {
            for (int day = 0; day < DAYS; day++) {
                if (other.holds(day)) {
                    add(day + later);
                }
            }
        }

        void addEachNth(Days other, int n) {
            int left = n;
            for (int day = 0; day < DAYS; day++) {
                if (other.holds(day)) {
                    left--;
                    if (left == 0) {
                        add(day);
                        left = n;
                    }
                }
            }
        }

        /** Adds of each block the k-th of the other set's days in it, counted as pick() counts. */
        void addOfBlocks(Days other, int length, int k) {
            for (int first = 0; first < DAYS && length > 0; first += length) {
                add(other.pick(first, lastOfBlock(first, length), k));
            }
        }

        /** The 60 days from one on, as bits; those behind the calendar's end are 0. */
        long wordFrom(int day) {
            if (!isDay(day)) {
                return 0;
            }
            int word = day / BITS;
            int cut = day % BITS;
            long low = words[word] >> cut;
            long high = word + 1 < WORDS ? words[word + 1] << BITS - cut : 0;
            return (low | high) & ALL;
        }

        boolean comesAgainAfter(int length) {
            int end = DAYS - length;
            for (int word = 0; word < WORDS; word++) {
                int first = word * BITS;
                int compared = Math.max(0, Math.min(BITS, end - first));
                long mask = (1L << compared) - 1;
                if (((words[word] ^ wordFrom(first + length)) & mask) != 0) {
                    return false;
                }
            }
            return true;
        }
    }

    /** What a NAME holds. Its DAYS are kept ready, as nearly every call asks for them. */
    private static final class Plan {
        boolean ruled;
        final Days rule = new Days();
        final Days out = new Days();
        final Days extra = new Days();
        final Days days = new Days();

        void become(boolean isRuled, Days newRule) {
            ruled = isRuled;
            rule.become(newRule);
            refresh();
        }

        void unrule() {
            ruled = false;
            rule.wipe();
            refresh();
        }

        void take(Plan other) {
            out.become(other.out);
            extra.become(other.extra);
            become(other.ruled, other.rule);
        }

        void refresh() {
            days.become(rule);
            days.addAll(extra);
            days.removeAll(out);
        }
    }

    /** REMEMBERED: the spans asked for, the eldest first, with the HITS and MISSES. */
    private static final class Memory {
        static final int SPANS = 6;
        static final int PARTS = 4;

        final int[][] spans = new int[SPANS][PARTS];
        int kept;
        int hits;
        int misses;

        void ask(int name, int from, int to, int held) {
            int place = find(name, from, to);
            if (place < kept) {
                hits++;
            } else {
                misses++;
                if (kept < SPANS) {
                    kept++;
                } else {
                    place = 0;
                }
                write(place, name, from, to);
            }
            spans[place][3] = held;
            makeLatest(place);
        }

        /** Where the span is; kept, if it is nowhere. */
        private int find(int name, int from, int to) {
            for (int i = 0; i < kept; i++) {
                int[] span = spans[i];
                if (span[0] == name && span[1] == from && span[2] == to) {
                    return i;
                }
            }
            return kept;
        }

        private void write(int place, int name, int from, int to) {
            int[] span = spans[place];
            span[0] = name;
            span[1] = from;
            span[2] = to;
        }

        private void makeLatest(int place) {
            int[] latest = spans[place];
            for (int i = place; i + 1 < kept; i++) {
                spans[i] = spans[i + 1];
            }
            spans[kept - 1] = latest;
        }

        /** Rows change places instead of being dropped: each is used again. */
        void forget(int name) {
            int left = 0;
            for (int i = 0; i < kept; i++) {
                int[] span = spans[i];
                if (span[0] != name) {
                    spans[i] = spans[left];
                    spans[left] = span;
                    left++;
                }
            }
            kept = left;
        }

        void forgetAll() {
            kept = 0;
        }
    }

    /** A LIST. */
    private static final class Row {
        boolean held;
        int size;
        final int[] places = new int[PLACES];

        void begin(int newSize) {
            held = true;
            size = newSize;
            for (int i = 0; i < PLACES; i++) {
                places[i] = 0;
            }
        }
    }

    /**
     * THE TAPE and the reading of a RULE from it. Each reading method takes its part of the text and
     * answers the set that it tells, or null at a fault; place is then where the fault is.
     */
    private static final class Reader {
        static final int LONGEST = 80;
        static final int DEEPEST = 5;
        static final int FIGURES = 4;
        static final int END = -1;
        static final int NO_NUMBER = -1;

        final int[] bytes = new int[LONGEST];
        int length;
        int place;
        /** A set each for every depth of brackets: an inner rule must not touch what stands open around it. */
        final Days[] sums = new Days[DEEPEST + 1];
        final Days[] products = new Days[DEEPEST + 1];
        final Days[] factors = new Days[DEEPEST + 1];

        Reader() {
            for (int depth = 0; depth <= DEEPEST; depth++) {
                sums[depth] = new Days();
                products[depth] = new Days();
                factors[depth] = new Days();
            }
        }

        int append(int letter) {
            if (length >= LONGEST) {
                return FULL;
            }
            bytes[length] = letter;
            length++;
            return length;
        }

        int empty() {
            int had = length;
            length = 0;
            return had;
        }

        Days read(Plan[] plans) {
            place = 0;
            Days whole = readSum(0, plans);
            return place < length ? null : whole;
        }

        private int here() {
            return place >= 0 && place < length && place < LONGEST ? bytes[place] : END;
        }

        private boolean take(int letter) {
            if (here() != letter) {
                return false;
            }
            place++;
            return true;
        }

        private Days readSum(int depth, Plan[] plans) {
            if (depth < 0 || depth > DEEPEST) {
                return null;
            }
            Days sum = sums[depth];
            sum.wipe();
            boolean without = false;
            for (int part = 0; part <= LONGEST; part++) {
                Days product = readProduct(depth, plans);
                if (product == null) {
                    return null;
                }
                if (without) {
                    sum.removeAll(product);
                } else {
                    sum.addAll(product);
                }
                without = take('/');
                if (!without && !take('|')) {
                    return sum;
                }
            }
            return null;
        }

        private Days readProduct(int depth, Plan[] plans) {
            Days product = products[depth];
            product.wipe();
            product.invert();
            for (int part = 0; part <= LONGEST; part++) {
                Days factor = readFactor(depth, plans);
                if (factor == null) {
                    return null;
                }
                product.keepAll(factor);
                if (!take('&')) {
                    return product;
                }
            }
            return null;
        }

        private Days readFactor(int depth, Plan[] plans) {
            Days factor = factors[depth];
            boolean inverted = take('!');
            if (!readPlain(depth, factor, plans)) {
                return null;
            }
            if (inverted) {
                factor.invert();
            }
            return factor;
        }

        /** Whether a factor without ! stands here; it is put into the set then. */
        private boolean readPlain(int depth, Days factor, Plan[] plans) {
            int letter = here();
            if (depth >= DEEPEST && hasBracket(letter)) {
                return false;
            }
            if (letter == '(') {
                return readInner(depth, factor, plans);
            }
            if (letter >= 'A' && letter <= 'J') {
                place++;
                factor.become(plans[letter - 'A'].days);
                return true;
            }
            switch (letter) {
                case 'w': case 'd': case 'm': case 'y':
                    place++;
                    return readUnit(letter, factor);
                case 'e': case 'r':
                    place++;
                    return readPair(letter, factor);
                case 'n': case 'l':
                    place++;
                    return readOfBlocks(letter, depth, factor, plans);
                case 's': case 'b': case 'p': case 'x':
                    place++;
                    return readChanged(letter, depth, factor, plans);
                default:
                    return false;
            }
        }

        /** Whether what begins so has a bracket of its own: within DEEPEST others no RULE goes on with the letter itself. */
        private static boolean hasBracket(int letter) {
            switch (letter) {
                case '(': case 'n': case 'l': case 's': case 'b': case 'p': case 'x':
                    return true;
                default:
                    return false;
            }
        }

        private boolean readUnit(int letter, Days factor) {
            int least = letter == 'w' || letter == 'y' ? 0 : 1;
            int n = readNumber(least, mostOf(letter));
            if (n == NO_NUMBER) {
                return false;
            }
            factor.wipe();
            if (letter == 'w') {
                factor.addEach(7, n);
            } else if (letter == 'd') {
                factor.addEach(30, n - 1);
            } else if (letter == 'm') {
                factor.addSpan(30 * n - 30, 30 * n - 1);
                factor.addSpan(360 + 30 * n - 30, 360 + 30 * n - 1);
            } else {
                factor.addSpan(360 * n, 360 * n + 359);
            }
            return true;
        }

        private boolean readPair(int letter, Days factor) {
            boolean each = letter == 'e';
            int a = readNumber(each ? 1 : 0, DAYS - 1);
            if (a == NO_NUMBER || !take(',')) {
                return false;
            }
            int b = readNumber(each ? 0 : a, DAYS - 1);
            if (b == NO_NUMBER) {
                return false;
            }
            factor.wipe();
            if (each) {
                factor.addEach(a, b);
            } else {
                factor.addSpan(a, b);
            }
            return true;
        }

        private boolean readOfBlocks(int letter, int depth, Days factor, Plan[] plans) {
            int k = readNumber(1, mostOf(letter));
            if (k == NO_NUMBER) {
                return false;
            }
            int block = blockOf(here());
            if (!isBlock(block)) {
                return false;
            }
            place++;
            Days inner = readBracket(depth, plans);
            if (inner == null) {
                return false;
            }
            factor.wipe();
            factor.addOfBlocks(inner, BLOCK_LENGTHS[block], letter == 'n' ? k - 1 : -k);
            return true;
        }

        private boolean readChanged(int letter, int depth, Days factor, Plan[] plans) {
            int k = readNumber(letter == 'x' ? 0 : 1, mostOf(letter));
            if (k == NO_NUMBER) {
                return false;
            }
            Days inner = readBracket(depth, plans);
            if (inner == null) {
                return false;
            }
            factor.wipe();
            if (letter == 's') {
                factor.addMoved(inner, k);
            } else if (letter == 'b') {
                factor.addMoved(inner, -k);
            } else if (letter == 'p') {
                factor.addEachNth(inner, k);
            } else {
                factor.become(inner);
                factor.remove(inner.pick(0, DAYS - 1, k));
            }
            return true;
        }

        private boolean readInner(int depth, Days factor, Plan[] plans) {
            Days inner = readBracket(depth, plans);
            if (inner == null) {
                return false;
            }
            factor.become(inner);
            return true;
        }

        /** (E), that stands within so many others. */
        private Days readBracket(int depth, Plan[] plans) {
            if (depth >= DEEPEST || !take('(')) {
                return null;
            }
            Days inner = readSum(depth + 1, plans);
            return inner != null && take(')') ? inner : null;
        }

        /** The number that stands here; NO_NUMBER at a fault: place is where it begins then, if it isn't as told. */
        private int readNumber(int least, int most) {
            int start = place;
            int value = 0;
            for (int figure = 0; figure < FIGURES && here() >= '0' && here() <= '9'; figure++) {
                value = value * 10 + here() - '0';
                place++;
            }
            if (place == start) {
                return NO_NUMBER;
            }
            if (value < least || value > most) {
                place = start;
                return NO_NUMBER;
            }
            return value;
        }

        private static int mostOf(int letter) {
            switch (letter) {
                case 'w':
                    return 6;
                case 'd':
                    return 30;
                case 'm':
                    return 12;
                case 'y':
                    return 1;
                case 'n': case 'l': case 'p':
                    return 99;
                default:
                    return DAYS - 1;
            }
        }

        private static int blockOf(int letter) {
            switch (letter) {
                case 'w':
                    return 0;
                case 'm':
                    return 1;
                case 'y':
                    return 2;
                default:
                    return -1;
            }
        }
    }
}
