import java.util.Arrays;

/**
 * Intervals of time, some of which may be left out, that share resources. The document DOC.md says
 * what each call answers; the words in capitals below are its words.
 */
public final class TimeResources {
    public static final int BAD = -1, NONE = -2, FULL = -3, CUT = -4;

    private static final int MAX_INTERVALS = 10;
    private static final int MAX_LENGTH = 30;
    private static final int MAX_START = 100;
    private static final int MAX_TIME = MAX_START + MAX_LENGTH;
    private static final int RESOURCES = 3;
    private static final int MAX_NEED = 20;
    private static final int CALENDARS = 2;
    private static final int MAX_BREAKS = 6;
    private static final int ROWS = 2;
    private static final int KINDS = 4;
    private static final int MAX_CHANGE = 20;
    private static final int MAX_ORDERS = 20;
    private static final int MAX_LAG = 30;
    private static final int STORES = 2;
    private static final int MAX_LEVEL = 100;
    private static final int MAX_EVENTS = 10;
    private static final int MAX_ADDED = 50;
    private static final int MAX_TRIES = 400;

    private static final int ABSENT = 0;
    private static final int PRESENT = 1;
    private static final int OPEN = 2;

    private static final int RULES = 9;
    // Each round but the last narrows one of 10 * 100 starts or of 10 presences: far fewer than this.
    private static final int MAX_ROUNDS = 1000000;

    private final int[] lengths = new int[MAX_INTERVALS];
    private final Bounds bounds = new Bounds(lengths);
    private final Bounds entry = new Bounds(lengths);
    private final Bounds kept = new Bounds(lengths);
    private final Rules rules = new Rules();
    private final Plan best = new Plan(lengths);
    private final Search search = new Search(bounds, rules, best);
    private boolean hasKept;
    private int toldRule;
    private int toldRounds;
    private int toldChanges;

    public TimeResources() {
    }

    public int interval(int length, int from, int to, boolean optional) {
        if (!isWithin(length, 0, MAX_LENGTH) || !isWithin(from, 0, MAX_START) || !isWithin(to, from, MAX_START)) {
            return BAD;
        }
        if (bounds.size >= MAX_INTERVALS) {
            return FULL;
        }
        int i = bounds.size;
        lengths[i] = length;
        bounds.first[i] = from;
        bounds.last[i] = to;
        bounds.presence[i] = optional ? OPEN : PRESENT;
        bounds.size++;
        return i;
    }

    public int capacity(int r, int c) {
        if (!isWithin(r, 0, RESOURCES - 1) || !isWithin(c, 0, MAX_NEED)) {
            return BAD;
        }
        int was = rules.resources[r].limit;
        rules.resources[r].limit = c;
        return was;
    }

    public int need(int r, int i, int h) {
        if (!isWithin(r, 0, RESOURCES - 1) || !isInterval(i) || !isWithin(h, 0, MAX_NEED)) {
            return BAD;
        }
        int was = rules.resources[r].needs[i];
        rules.resources[r].needs[i] = h;
        return was;
    }

    public int pause(int c, int from, int to) {
        if (!isWithin(c, 0, CALENDARS - 1) || !isWithin(from, 0, MAX_TIME) || !isWithin(to, 0, MAX_TIME + 1)
                || to <= from) {
            return BAD;
        }
        return rules.calendars.addBreak(c, from, to);
    }

    public int calendar(int i, int c) {
        if (!isInterval(i) || !isWithin(c, -1, CALENDARS - 1)) {
            return BAD;
        }
        int was = rules.calendars.of[i];
        rules.calendars.of[i] = c < 0 ? NONE : c;
        return was;
    }

    public int row(int k, int i) {
        if (!isWithin(k, 0, ROWS - 1) || !isInterval(i)) {
            return BAD;
        }
        boolean isNew = !rules.rows[k].has[i];
        rules.rows[k].has[i] = true;
        return isNew ? 1 : 0;
    }

    public int kind(int i, int k) {
        if (!isInterval(i) || !isWithin(k, 0, KINDS - 1)) {
            return BAD;
        }
        int was = rules.kindOf[i];
        rules.kindOf[i] = k;
        return was;
    }

    public int change(int row, int a, int b, int v) {
        if (!isWithin(row, 0, ROWS - 1) || !isWithin(a, 0, KINDS - 1) || !isWithin(b, 0, KINDS - 1)
                || !isWithin(v, 0, MAX_CHANGE)) {
            return BAD;
        }
        int was = rules.rows[row].changes[a][b];
        rules.rows[row].changes[a][b] = v;
        return was;
    }

    public int triangle(int row) {
        if (!isWithin(row, 0, ROWS - 1)) {
            return BAD;
        }
        return rules.rows[row].hasNoShortcut() ? 1 : 0;
    }

    public int before(int a, int b, int lag) {
        if (!isInterval(a) || !isInterval(b) || a == b || !isWithin(lag, -MAX_LAG, MAX_LAG)) {
            return BAD;
        }
        return rules.orders.add(a, b, lag);
    }

    public int store(int k, int begin, int least, int most) {
        if (!isWithin(k, 0, STORES - 1) || !isLevel(begin) || !isLevel(least) || !isLevel(most) || least > most) {
            return BAD;
        }
        rules.stores[k].begin = begin;
        rules.stores[k].least = least;
        rules.stores[k].most = most;
        return 1;
    }

    public int event(int k, int i, boolean atEnd, int v) {
        if (!isWithin(k, 0, STORES - 1) || !isInterval(i) || !isWithin(v, -MAX_ADDED, MAX_ADDED) || v == 0) {
            return BAD;
        }
        return rules.stores[k].addEvent(i, atEnd, v);
    }

    public int option(int master, int i) {
        if (!isInterval(master) || !isInterval(i) || master == i || lengths[master] != lengths[i]) {
            return BAD;
        }
        Choices choices = rules.choices;
        if (choices.isOption(master) || choices.isOption(i) || choices.countOptions(i) > 0) {
            return BAD;
        }
        choices.masterOf[i] = master;
        return choices.countOptions(master);
    }

    public int fix(int i, int what, int v) {
        if (!isInterval(i) || !isWithin(what, 0, 3) || (what <= 1 && !isWithin(v, 0, MAX_START))) {
            return BAD;
        }
        if (!canBe(i, what, v)) {
            return 0;
        }
        switch (what) {
            case 0:
                bounds.raise(i, v);
                break;
            case 1:
                bounds.lower(i, v);
                break;
            case 2:
                bounds.include(i);
                break;
            default:
                bounds.exclude(i);
                break;
        }
        return 1;
    }

    public int narrow() {
        entry.copyFrom(bounds);
        boolean holds = rules.run(bounds);
        if (!holds) {
            bounds.copyFrom(entry);
        }
        toldRule = rules.failedRule;
        toldRounds = rules.rounds;
        toldChanges = bounds.countChanges(entry);
        return holds ? 1 : 0;
    }

    public int told(int what) {
        switch (what) {
            case 0:
                return toldRule;
            case 1:
                return toldRounds;
            case 2:
                return toldChanges;
            default:
                return BAD;
        }
    }

    public int about(int i, int what) {
        if (!isInterval(i)) {
            return BAD;
        }
        switch (what) {
            case 0:
                return bounds.first[i];
            case 1:
                return bounds.last[i];
            case 2:
                return bounds.presence[i];
            case 3:
                return lengths[i];
            case 4:
                return rules.kindOf[i];
            case 5:
                return rules.calendars.of[i];
            case 6:
                return rules.choices.masterOf[i];
            case 7:
                return rules.choices.countOptions(i);
            default:
                return BAD;
        }
    }

    public int keep() {
        kept.copyFrom(bounds);
        hasKept = true;
        return 1;
    }

    public int back() {
        if (!hasKept) {
            return NONE;
        }
        bounds.takeFrom(kept);
        return kept.size;
    }

    public int solve(int tries) {
        if (!isWithin(tries, 1, MAX_TRIES)) {
            return BAD;
        }
        entry.copyFrom(bounds);
        search.begin(tries);
        if (rules.run(bounds)) {
            search.explore(0);
        }
        bounds.copyFrom(entry);
        return search.answer();
    }

    public int plan(int i) {
        return isInterval(i) ? best.start[i] : BAD;
    }

    public int count(int what) {
        switch (what) {
            case 0:
                return best.isFound ? best.end : NONE;
            case 1:
                return search.tries;
            case 2:
                return bounds.size;
            case 3:
                return rules.orders.size;
            case 4:
                return bounds.countOf(PRESENT);
            case 5:
                return bounds.countOf(ABSENT);
            case 6:
                return bounds.countOf(OPEN);
            default:
                return BAD;
        }
    }

    public int use(int r, int t) {
        if (!isWithin(r, 0, RESOURCES - 1) || !isWithin(t, 0, MAX_TIME)) {
            return BAD;
        }
        rules.resources[r].sumLoad(bounds, NONE);
        return rules.resources[r].load[t];
    }

    public int check() {
        return best.isFound ? rules.firstBroken(best) : NONE;
    }

    private boolean isInterval(int i) {
        return i >= 0 && i < bounds.size;
    }

    private boolean canBe(int i, int what, int v) {
        switch (what) {
            case 0:
                return !bounds.isAbsent(i) && v <= bounds.last[i];
            case 1:
                return !bounds.isAbsent(i) && v >= bounds.first[i];
            case 2:
                return !bounds.isAbsent(i);
            default:
                return !bounds.isPresent(i);
        }
    }

    private static boolean isLevel(int v) {
        return isWithin(v, -MAX_LEVEL, MAX_LEVEL);
    }

    private static boolean isWithin(int v, int least, int most) {
        return v >= least && v <= most;
    }

    /** When each interval may start, and its PRESENCE. */
    private static final class Bounds {
        // Never differs between copies of the bounds, so all of them share one array.
        final int[] lengths;
        final int[] first = new int[MAX_INTERVALS];
        final int[] last = new int[MAX_INTERVALS];
        final int[] presence = new int[MAX_INTERVALS];
        int size;
        boolean isChanged;
        boolean isFailed;

        Bounds(int[] lengths) {
            this.lengths = lengths;
        }

        void copyFrom(Bounds other) {
            size = other.size;
            takeFrom(other);
        }

        /** Leaves intervals alone that the other does not have. */
        void takeFrom(Bounds other) {
            System.arraycopy(other.first, 0, first, 0, other.size);
            System.arraycopy(other.last, 0, last, 0, other.size);
            System.arraycopy(other.presence, 0, presence, 0, other.size);
            isFailed = false;
        }

        boolean isPresent(int i) {
            return presence[i] == PRESENT;
        }

        boolean isAbsent(int i) {
            return presence[i] == ABSENT;
        }

        int firstEnd(int i) {
            return first[i] + lengths[i];
        }

        int lastEnd(int i) {
            return last[i] + lengths[i];
        }

        void raise(int i, int least) {
            if (presence[i] == ABSENT || least <= first[i]) {
                return;
            }
            if (least > last[i]) {
                exclude(i);
                return;
            }
            first[i] = least;
            isChanged = true;
        }

        void lower(int i, int most) {
            if (presence[i] == ABSENT || most >= last[i]) {
                return;
            }
            if (most < first[i]) {
                exclude(i);
                return;
            }
            last[i] = most;
            isChanged = true;
        }

        void exclude(int i) {
            if (presence[i] == PRESENT) {
                isFailed = true;
            } else if (presence[i] == OPEN) {
                presence[i] = ABSENT;
                isChanged = true;
            }
        }

        void include(int i) {
            if (presence[i] == OPEN) {
                presence[i] = PRESENT;
                isChanged = true;
            }
        }

        void place(int i, int start) {
            first[i] = start;
            last[i] = start;
            presence[i] = PRESENT;
        }

        int countOf(int which) {
            int count = 0;
            for (int i = 0; i < size; i++) {
                if (presence[i] == which) {
                    count++;
                }
            }
            return count;
        }

        int countChanges(Bounds other) {
            int count = 0;
            for (int i = 0; i < size; i++) {
                count += first[i] == other.first[i] ? 0 : 1;
                count += last[i] == other.last[i] ? 0 : 1;
                count += presence[i] == other.presence[i] ? 0 : 1;
            }
            return count;
        }
    }

    /** The starts of a PLAN. */
    private static final class Plan {
        final int[] lengths;
        // All places are NONE where no start is, so an interval that comes later is absent, too.
        final int[] start = new int[MAX_INTERVALS];
        boolean isFound;
        int end;

        Plan(int[] lengths) {
            this.lengths = lengths;
            Arrays.fill(start, NONE);
        }

        void forget() {
            Arrays.fill(start, NONE);
            isFound = false;
        }

        boolean has(int i) {
            return start[i] != NONE;
        }

        int endOf(int i) {
            return start[i] + lengths[i];
        }

        /** An equal end does not count: the plan that came first is ahead in the document's order. */
        void takeIfBetter(Bounds b) {
            int newEnd = 0;
            for (int i = 0; i < b.size; i++) {
                if (b.isPresent(i)) {
                    newEnd = Math.max(newEnd, b.firstEnd(i));
                }
            }
            if (isFound && newEnd >= end) {
                return;
            }
            isFound = true;
            end = newEnd;
            for (int i = 0; i < b.size; i++) {
                start[i] = b.isPresent(i) ? b.first[i] : NONE;
            }
        }
    }

    /** RULE 1. */
    private static final class Orders {
        final int[] ahead = new int[MAX_ORDERS];
        final int[] behind = new int[MAX_ORDERS];
        final int[] lags = new int[MAX_ORDERS];
        int size;

        int add(int a, int b, int lag) {
            if (size >= MAX_ORDERS) {
                return FULL;
            }
            ahead[size] = a;
            behind[size] = b;
            lags[size] = lag;
            size++;
            return size;
        }

        void narrowAll(Bounds b) {
            for (int k = 0; k < size && !b.isFailed; k++) {
                int x = ahead[k];
                int y = behind[k];
                if (b.isPresent(x)) {
                    b.raise(y, b.firstEnd(x) + lags[k]);
                }
                if (b.isPresent(y)) {
                    b.lower(x, b.last[y] - lags[k] - b.lengths[x]);
                }
            }
        }

        boolean areKept(Plan plan) {
            for (int k = 0; k < size; k++) {
                int x = ahead[k];
                int y = behind[k];
                if (plan.has(x) && plan.has(y) && plan.start[y] < plan.endOf(x) + lags[k]) {
                    return false;
                }
            }
            return true;
        }
    }

    /** RULE 2. */
    private static final class Calendars {
        final int[] of = new int[MAX_INTERVALS];
        final int[] sizes = new int[CALENDARS];
        final int[][] from = new int[CALENDARS][MAX_BREAKS];
        final int[][] to = new int[CALENDARS][MAX_BREAKS];

        Calendars() {
            Arrays.fill(of, NONE);
        }

        int addBreak(int c, int breakFrom, int breakTo) {
            int k = sizes[c];
            if (k >= MAX_BREAKS) {
                return FULL;
            }
            from[c][k] = breakFrom;
            to[c][k] = breakTo;
            sizes[c] = k + 1;
            return sizes[c];
        }

        void narrowAll(Bounds b) {
            for (int i = 0; i < b.size && !b.isFailed; i++) {
                if (of[i] >= 0 && b.lengths[i] > 0 && !b.isAbsent(i)) {
                    b.raise(i, leastStart(b, i));
                    b.lower(i, greatestStart(b, i));
                }
            }
        }

        int leastStart(Bounds b, int i) {
            int start = b.first[i];
            while (start <= b.last[i] && meetsBreak(i, start, b.lengths[i])) {
                start++;
            }
            return start;
        }

        int greatestStart(Bounds b, int i) {
            int start = b.last[i];
            while (start >= b.first[i] && meetsBreak(i, start, b.lengths[i])) {
                start--;
            }
            return start;
        }

        boolean meetsBreak(int i, int start, int length) {
            int c = of[i];
            if (c < 0 || length <= 0) {
                return false;
            }
            for (int k = 0; k < sizes[c]; k++) {
                if (start < to[c][k] && from[c][k] < start + length) {
                    return true;
                }
            }
            return false;
        }

        boolean areKept(Plan plan) {
            for (int i = 0; i < MAX_INTERVALS; i++) {
                if (plan.has(i) && meetsBreak(i, plan.start[i], plan.lengths[i])) {
                    return false;
                }
            }
            return true;
        }
    }

    /** RULES 3 and 4. */
    private static final class Resource {
        final int[] needs = new int[MAX_INTERVALS];
        // What is used at each time; made once, as the rules fill it anew many times a call.
        final int[] load;
        int limit;

        Resource(int[] load) {
            this.load = load;
        }

        /** THE USE at all times, but for the part of one interval. */
        void sumLoad(Bounds b, int without) {
            Arrays.fill(load, 0);
            for (int i = 0; i < b.size; i++) {
                if (i != without && needs[i] > 0 && b.isPresent(i)) {
                    addLoad(b.last[i], b.firstEnd(i), needs[i]);
                }
            }
        }

        void addLoad(int from, int to, int height) {
            for (int t = from; t < to; t++) {
                load[t] += height;
            }
        }

        boolean isOverloaded() {
            for (int t = 0; t <= MAX_TIME; t++) {
                if (load[t] > limit) {
                    return true;
                }
            }
            return false;
        }

        void narrowByUse(Bounds b) {
            sumLoad(b, NONE);
            if (isOverloaded()) {
                b.isFailed = true;
                return;
            }
            for (int i = 0; i < b.size && !b.isFailed; i++) {
                if (needs[i] > 0 && b.lengths[i] > 0 && !b.isAbsent(i)) {
                    sumLoad(b, i);
                    b.raise(i, leastStart(b, i));
                    b.lower(i, greatestStart(b, i));
                }
            }
        }

        int leastStart(Bounds b, int i) {
            int free = 0;
            for (int t = b.first[i]; t < b.lastEnd(i); t++) {
                free = load[t] + needs[i] > limit ? 0 : free + 1;
                if (free >= b.lengths[i]) {
                    return t - b.lengths[i] + 1;
                }
            }
            return b.last[i] + 1;
        }

        int greatestStart(Bounds b, int i) {
            int free = 0;
            for (int t = b.lastEnd(i) - 1; t >= b.first[i]; t--) {
                free = load[t] + needs[i] > limit ? 0 : free + 1;
                if (free >= b.lengths[i]) {
                    return t;
                }
            }
            return b.first[i] - 1;
        }

        void narrowByWork(Bounds b) {
            for (int x = 0; x < b.size; x++) {
                if (needs[x] > 0 && b.isPresent(x)) {
                    int from = b.first[x];
                    for (int y = 0; y < b.size && !b.isFailed; y++) {
                        if (needs[y] > 0 && b.isPresent(y)) {
                            narrowBetween(b, from, b.lastEnd(y));
                        }
                    }
                }
            }
        }

        void narrowBetween(Bounds b, int from, int to) {
            if (from >= to) {
                return;
            }
            int all = limit * (to - from);
            int work = 0;
            for (int i = 0; i < b.size; i++) {
                work += leastWork(b, i, from, to);
            }
            if (work > all) {
                b.isFailed = true;
            }
            for (int i = 0; i < b.size && !b.isFailed; i++) {
                int h = needs[i];
                if (h <= 0 || b.isAbsent(i)) {
                    continue;
                }
                int others = work - leastWork(b, i, from, to);
                int room = all - others;
                if (room < 0) {
                    b.isFailed = true;
                    return;
                }
                if (h * (Math.min(b.firstEnd(i), to) - Math.max(b.first[i], from)) > room) {
                    b.raise(i, to - room / h);
                }
                if (h * (Math.min(b.lastEnd(i), to) - Math.max(b.last[i], from)) > room) {
                    b.lower(i, from + room / h - b.lengths[i]);
                }
                // Its own bounds may have moved, and the next ones' ROOM counts its work as it is now.
                work = others + leastWork(b, i, from, to);
            }
        }

        int leastWork(Bounds b, int i, int from, int to) {
            if (needs[i] <= 0 || !b.isPresent(i)) {
                return 0;
            }
            int inside = Math.min(b.lengths[i], to - from);
            inside = Math.min(inside, b.firstEnd(i) - from);
            inside = Math.min(inside, to - b.last[i]);
            return needs[i] * Math.max(inside, 0);
        }

        boolean isKept(Plan plan) {
            Arrays.fill(load, 0);
            for (int i = 0; i < MAX_INTERVALS; i++) {
                if (plan.has(i)) {
                    addLoad(plan.start[i], plan.endOf(i), needs[i]);
                }
            }
            return !isOverloaded();
        }
    }

    /** RULES 5, 6 and 7. */
    private static final class Row {
        final int[] kindOf;
        final int[][] changes = new int[KINDS][KINDS];
        final boolean[] has = new boolean[MAX_INTERVALS];
        final boolean[] inSet = new boolean[MAX_INTERVALS];
        int setSize;
        int setLength;

        Row(int[] kindOf) {
            this.kindOf = kindOf;
        }

        boolean hasNoShortcut() {
            for (int a = 0; a < KINDS; a++) {
                for (int b = 0; b < KINDS; b++) {
                    for (int c = 0; c < KINDS; c++) {
                        if (changes[a][c] > changes[a][b] + changes[b][c]) {
                            return false;
                        }
                    }
                }
            }
            return true;
        }

        int changeBetween(int x, int y) {
            return changes[kindOf[x]][kindOf[y]];
        }

        void narrowPairs(Bounds b) {
            for (int i = 0; i < b.size; i++) {
                for (int j = i + 1; j < b.size && !b.isFailed; j++) {
                    if (isRival(b, i) && isRival(b, j) && (b.isPresent(i) || b.isPresent(j))) {
                        narrowPair(b, i, j);
                    }
                }
            }
        }

        boolean isRival(Bounds b, int i) {
            return has[i] && !b.isAbsent(i);
        }

        void narrowPair(Bounds b, int i, int j) {
            boolean isAheadI = b.firstEnd(i) + changeBetween(i, j) <= b.last[j];
            boolean isAheadJ = b.firstEnd(j) + changeBetween(j, i) <= b.last[i];
            if (isAheadI && isAheadJ) {
                return;
            }
            if (!isAheadI && !isAheadJ) {
                b.exclude(b.isPresent(i) ? j : i);
                return;
            }
            int x = isAheadI ? i : j;
            int y = isAheadI ? j : i;
            int gap = b.lengths[x] + changeBetween(x, y);
            if (b.isPresent(x)) {
                b.raise(y, b.first[x] + gap);
            }
            if (b.isPresent(y)) {
                b.lower(x, b.last[y] - gap);
            }
        }

        /** RULES 6 and 7 look at the same SETS. */
        void narrowBySets(Bounds b, boolean byEdges) {
            for (int x = 0; x < b.size; x++) {
                if (has[x] && b.isPresent(x)) {
                    int from = b.first[x];
                    for (int y = 0; y < b.size && !b.isFailed; y++) {
                        if (!has[y] || !b.isPresent(y) || from >= b.lastEnd(y)) {
                            continue;
                        }
                        int to = b.lastEnd(y);
                        takeSet(b, from, to);
                        if (byEdges) {
                            narrowByEdges(b, from, to);
                        } else {
                            narrowByNotFirstNotLast(b, from, to);
                        }
                    }
                }
            }
        }

        void takeSet(Bounds b, int from, int to) {
            setSize = 0;
            setLength = 0;
            for (int i = 0; i < b.size; i++) {
                inSet[i] = has[i] && b.isPresent(i) && b.first[i] >= from && b.lastEnd(i) <= to;
                if (inSet[i]) {
                    setSize++;
                    setLength += b.lengths[i];
                }
            }
        }

        void narrowByEdges(Bounds b, int from, int to) {
            if (setLength > to - from) {
                b.isFailed = true;
            }
            for (int i = 0; i < b.size && setSize > 0 && !b.isFailed; i++) {
                if (!isRival(b, i) || inSet[i]) {
                    continue;
                }
                int together = setLength + b.lengths[i];
                if (Math.min(from, b.first[i]) + together > to) {
                    b.raise(i, endOfSet(b));
                }
                if (together > Math.max(to, b.lastEnd(i)) - from) {
                    b.lower(i, startOfSet(b) - b.lengths[i]);
                }
            }
        }

        int endOfSet(Bounds b) {
            int end = 0;
            for (int i = 0; i < b.size; i++) {
                if (!inSet[i]) {
                    continue;
                }
                int sum = b.first[i];
                for (int j = 0; j < b.size; j++) {
                    if (inSet[j] && b.first[j] >= b.first[i]) {
                        sum += b.lengths[j];
                    }
                }
                end = Math.max(end, sum);
            }
            return end;
        }

        int startOfSet(Bounds b) {
            int start = MAX_TIME;
            for (int i = 0; i < b.size; i++) {
                if (!inSet[i]) {
                    continue;
                }
                int rest = b.lastEnd(i);
                for (int j = 0; j < b.size; j++) {
                    if (inSet[j] && b.lastEnd(j) <= b.lastEnd(i)) {
                        rest -= b.lengths[j];
                    }
                }
                start = Math.min(start, rest);
            }
            return start;
        }

        void narrowByNotFirstNotLast(Bounds b, int from, int to) {
            for (int i = 0; i < b.size && setSize > 0 && !b.isFailed; i++) {
                if (!isRival(b, i) || inSet[i]) {
                    continue;
                }
                if (b.firstEnd(i) + setLength > to) {
                    b.raise(i, leastEndInSet(b));
                }
                if (b.last[i] < from + setLength) {
                    b.lower(i, greatestStartInSet(b) - b.lengths[i]);
                }
            }
        }

        int leastEndInSet(Bounds b) {
            int least = MAX_TIME;
            for (int i = 0; i < b.size; i++) {
                if (inSet[i]) {
                    least = Math.min(least, b.firstEnd(i));
                }
            }
            return least;
        }

        int greatestStartInSet(Bounds b) {
            int greatest = 0;
            for (int i = 0; i < b.size; i++) {
                if (inSet[i]) {
                    greatest = Math.max(greatest, b.last[i]);
                }
            }
            return greatest;
        }

        boolean isKept(Plan plan) {
            for (int i = 0; i < MAX_INTERVALS; i++) {
                for (int j = i + 1; j < MAX_INTERVALS; j++) {
                    if (has[i] && has[j] && plan.has(i) && plan.has(j)
                            && plan.endOf(i) + changeBetween(i, j) > plan.start[j]
                            && plan.endOf(j) + changeBetween(j, i) > plan.start[i]) {
                        return false;
                    }
                }
            }
            return true;
        }
    }

    /** RULE 8. */
    private static final class Store {
        final int[] intervals = new int[MAX_EVENTS];
        final int[] added = new int[MAX_EVENTS];
        final boolean[] atEnd = new boolean[MAX_EVENTS];
        int size;
        int begin;
        int least = -MAX_LEVEL;
        int most = MAX_LEVEL;

        int addEvent(int i, boolean isAtEnd, int v) {
            if (size >= MAX_EVENTS) {
                return FULL;
            }
            intervals[size] = i;
            atEnd[size] = isAtEnd;
            added[size] = v;
            size++;
            return size;
        }

        boolean isBeginWrong() {
            return size > 0 && (begin < least || begin > most);
        }

        void narrowAll(Bounds b) {
            if (isBeginWrong()) {
                b.isFailed = true;
            }
            // Times of absent ones can be left out: no level changes at them.
            for (int k = 0; k < size && !b.isFailed; k++) {
                if (!b.isAbsent(intervals[k])) {
                    b.isFailed = !canHoldAt(b, earliest(b, k)) || !canHoldAt(b, latest(b, k));
                }
            }
        }

        int earliest(Bounds b, int k) {
            return atEnd[k] ? b.firstEnd(intervals[k]) : b.first[intervals[k]];
        }

        int latest(Bounds b, int k) {
            return atEnd[k] ? b.lastEnd(intervals[k]) : b.last[intervals[k]];
        }

        boolean canHoldAt(Bounds b, int t) {
            int high = begin;
            int low = begin;
            for (int k = 0; k < size; k++) {
                int i = intervals[k];
                boolean mayBe = !b.isAbsent(i) && earliest(b, k) <= t;
                boolean mustBe = b.isPresent(i) && latest(b, k) <= t;
                if (added[k] > 0) {
                    high += mayBe ? added[k] : 0;
                    low += mustBe ? added[k] : 0;
                } else {
                    high += mustBe ? added[k] : 0;
                    low += mayBe ? added[k] : 0;
                }
            }
            return high >= least && low <= most;
        }

        boolean isKept(Plan plan) {
            if (isBeginWrong()) {
                return false;
            }
            for (int k = 0; k < size; k++) {
                if (plan.has(intervals[k])) {
                    int level = levelAt(plan, timeOf(plan, k));
                    if (level < least || level > most) {
                        return false;
                    }
                }
            }
            return true;
        }

        int timeOf(Plan plan, int k) {
            return atEnd[k] ? plan.endOf(intervals[k]) : plan.start[intervals[k]];
        }

        int levelAt(Plan plan, int t) {
            int level = begin;
            for (int k = 0; k < size; k++) {
                if (plan.has(intervals[k]) && timeOf(plan, k) <= t) {
                    level += added[k];
                }
            }
            return level;
        }
    }

    /** RULE 9. */
    private static final class Choices {
        final int[] masterOf = new int[MAX_INTERVALS];

        Choices() {
            Arrays.fill(masterOf, NONE);
        }

        boolean isOption(int i) {
            return masterOf[i] != NONE;
        }

        int countOptions(int master) {
            int count = 0;
            for (int i = 0; i < MAX_INTERVALS; i++) {
                if (masterOf[i] == master) {
                    count++;
                }
            }
            return count;
        }

        void narrowAll(Bounds b) {
            for (int m = 0; m < b.size && !b.isFailed; m++) {
                if (countOptions(m) > 0) {
                    settlePresence(b, m);
                    narrowStarts(b, m);
                }
            }
        }

        void settlePresence(Bounds b, int m) {
            if (countNotAbsent(b, m) == 0) {
                b.exclude(m);
            }
            if (b.isAbsent(m)) {
                excludeAllBut(b, m, NONE);
                return;
            }
            if (presentOption(b, m) != NONE) {
                b.include(m);
            }
            if (b.isPresent(m) && countNotAbsent(b, m) == 1) {
                includeAll(b, m);
            }
            int chosen = presentOption(b, m);
            if (chosen != NONE) {
                excludeAllBut(b, m, chosen);
            }
        }

        int countNotAbsent(Bounds b, int m) {
            int count = 0;
            for (int i = 0; i < b.size; i++) {
                if (masterOf[i] == m && !b.isAbsent(i)) {
                    count++;
                }
            }
            return count;
        }

        int presentOption(Bounds b, int m) {
            for (int i = 0; i < b.size; i++) {
                if (masterOf[i] == m && b.isPresent(i)) {
                    return i;
                }
            }
            return NONE;
        }

        void includeAll(Bounds b, int m) {
            for (int i = 0; i < b.size; i++) {
                if (masterOf[i] == m) {
                    b.include(i);
                }
            }
        }

        void excludeAllBut(Bounds b, int m, int chosen) {
            for (int i = 0; i < b.size; i++) {
                if (masterOf[i] == m && i != chosen) {
                    b.exclude(i);
                }
            }
        }

        void narrowStarts(Bounds b, int m) {
            if (b.isFailed || b.isAbsent(m)) {
                return;
            }
            int least = MAX_START;
            int greatest = 0;
            for (int i = 0; i < b.size; i++) {
                if (masterOf[i] == m && !b.isAbsent(i)) {
                    least = Math.min(least, b.first[i]);
                    greatest = Math.max(greatest, b.last[i]);
                }
            }
            b.raise(m, least);
            b.lower(m, greatest);
            // A master that has just become absent binds nothing any more.
            for (int i = 0; i < b.size && !b.isAbsent(m); i++) {
                if (masterOf[i] == m) {
                    b.raise(i, b.first[m]);
                    b.lower(i, b.last[m]);
                }
            }
        }

        boolean areKept(Plan plan) {
            for (int m = 0; m < MAX_INTERVALS; m++) {
                if (countOptions(m) > 0 && !isKept(plan, m)) {
                    return false;
                }
            }
            return true;
        }

        boolean isKept(Plan plan, int m) {
            int chosen = 0;
            for (int i = 0; i < MAX_INTERVALS; i++) {
                if (masterOf[i] == m && plan.has(i)) {
                    chosen++;
                    if (plan.start[i] != plan.start[m]) {
                        return false;
                    }
                }
            }
            return chosen == (plan.has(m) ? 1 : 0);
        }
    }

    /** All that was told, and THE RULES over it. */
    private static final class Rules {
        final int[] kindOf = new int[MAX_INTERVALS];
        final Orders orders = new Orders();
        final Calendars calendars = new Calendars();
        final Resource[] resources = new Resource[RESOURCES];
        final Row[] rows = new Row[ROWS];
        final Store[] stores = new Store[STORES];
        final Choices choices = new Choices();
        int failedRule;
        int rounds;

        Rules() {
            int[] load = new int[MAX_TIME + 1];
            for (int r = 0; r < RESOURCES; r++) {
                resources[r] = new Resource(load);
            }
            for (int k = 0; k < ROWS; k++) {
                rows[k] = new Row(kindOf);
            }
            for (int k = 0; k < STORES; k++) {
                stores[k] = new Store();
            }
        }

        boolean run(Bounds b) {
            failedRule = 0;
            rounds = 0;
            b.isChanged = true;
            while (b.isChanged && rounds < MAX_ROUNDS) {
                rounds++;
                b.isChanged = false;
                for (int rule = 1; rule <= RULES; rule++) {
                    apply(rule, b);
                    if (b.isFailed) {
                        failedRule = rule;
                        return false;
                    }
                }
            }
            return true;
        }

        void apply(int rule, Bounds b) {
            switch (rule) {
                case 1:
                    orders.narrowAll(b);
                    break;
                case 2:
                    calendars.narrowAll(b);
                    break;
                case 3:
                    for (Resource resource : resources) {
                        resource.narrowByUse(b);
                    }
                    break;
                case 4:
                    for (Resource resource : resources) {
                        resource.narrowByWork(b);
                    }
                    break;
                case 5:
                    for (Row row : rows) {
                        row.narrowPairs(b);
                    }
                    break;
                case 6:
                    for (Row row : rows) {
                        row.narrowBySets(b, true);
                    }
                    break;
                case 7:
                    for (Row row : rows) {
                        row.narrowBySets(b, false);
                    }
                    break;
                case 8:
                    for (Store store : stores) {
                        store.narrowAll(b);
                    }
                    break;
                default:
                    choices.narrowAll(b);
                    break;
            }
        }

        int firstBroken(Plan plan) {
            if (!orders.areKept(plan)) {
                return 1;
            }
            if (!calendars.areKept(plan)) {
                return 2;
            }
            for (Resource resource : resources) {
                if (!resource.isKept(plan)) {
                    return 3;
                }
            }
            for (Row row : rows) {
                if (!row.isKept(plan)) {
                    return 5;
                }
            }
            for (Store store : stores) {
                if (!store.isKept(plan)) {
                    return 8;
                }
            }
            return choices.areKept(plan) ? 0 : 9;
        }
    }

    /** Goes over all plans, one interval after the other. */
    private static final class Search {
        final Bounds bounds;
        final Rules rules;
        final Plan best;
        // One for each depth, as the tries below must not spoil what the ones above go back to.
        final Bounds[] nodes = new Bounds[MAX_INTERVALS];
        int limit;
        int tries;
        boolean isCut;

        Search(Bounds bounds, Rules rules, Plan best) {
            this.bounds = bounds;
            this.rules = rules;
            this.best = best;
            for (int i = 0; i < MAX_INTERVALS; i++) {
                nodes[i] = new Bounds(bounds.lengths);
            }
        }

        void begin(int most) {
            limit = most;
            tries = 0;
            isCut = false;
            best.forget();
        }

        int answer() {
            if (best.isFound) {
                return isCut ? 2 : 1;
            }
            return isCut ? CUT : 0;
        }

        /** Each level goes on behind the interval that it tries, so levels are no more than intervals. */
        private void explore(int from) {
            int i = from;
            while (i < bounds.size && bounds.isAbsent(i)) {
                i++;
            }
            if (i >= bounds.size || i >= MAX_INTERVALS) {
                best.takeIfBetter(bounds);
                return;
            }
            Bounds node = nodes[i];
            node.copyFrom(bounds);
            for (int start = node.first[i]; start <= node.last[i] && !isCut; start++) {
                attempt(node, i, start);
            }
            if (!node.isPresent(i) && !isCut) {
                attempt(node, i, NONE);
            }
        }

        private void attempt(Bounds node, int i, int start) {
            if (tries >= limit) {
                isCut = true;
                return;
            }
            tries++;
            bounds.copyFrom(node);
            if (start == NONE) {
                bounds.exclude(i);
            } else {
                bounds.place(i, start);
            }
            endBefore();
            if (!bounds.isFailed && rules.run(bounds)) {
                explore(i + 1);
            }
        }

        /** Only a plan that ends before the best one is looked for. */
        void endBefore() {
            if (!best.isFound) {
                return;
            }
            for (int i = 0; i < bounds.size; i++) {
                bounds.lower(i, best.end - 1 - bounds.lengths[i]);
            }
        }
    }
}
