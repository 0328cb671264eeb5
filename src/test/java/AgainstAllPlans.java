import java.util.ArrayList;
import java.util.Arrays;
import java.util.List;
import java.util.Random;

/**
 * Small random problems whose plans can all be written down: narrow() may never take away a start or a
 * presence that some plan has, and solve() must find the first of the plans that end first.
 */
public final class AgainstAllPlans {
    private static final int ABSENT = -2;
    private static final int PROBLEMS = 20000;
    private static int wrong = 0;
    private static int solved = 0;
    private static int without = 0;
    private static int cut = 0;

    private final Random random;
    private final int number;
    private final TimeResources x = new TimeResources();
    private final StringBuilder calls = new StringBuilder();
    private int n;
    private int[] length, from, to;
    private boolean[] optional;
    private int[] capacity = new int[3];
    private int[][] need = new int[3][10];
    private final List<int[]> breaks = new ArrayList<>();
    private final int[] calendar = new int[10];
    private final boolean[][] row = new boolean[2][10];
    private final int[] kind = new int[10];
    private final int[][][] change = new int[2][4][4];
    private final List<int[]> orders = new ArrayList<>();
    private final int[][] store = {{0, -100, 100}, {0, -100, 100}};
    private final List<int[]> events = new ArrayList<>();
    private final int[] master = new int[10];
    private final List<int[]> plans = new ArrayList<>();

    private AgainstAllPlans(int number) {
        this.number = number;
        this.random = new Random(number);
        Arrays.fill(calendar, -1);
        Arrays.fill(master, -1);
    }

    public static void main(String[] args) {
        for (int k = 0; k < PROBLEMS; k++) {
            new AgainstAllPlans(k).compare();
        }
        System.out.println(PROBLEMS + " problems: " + solved + " solved, " + without + " without a plan, " + cut
                + " cut; " + wrong + " answers are not as due");
        if (wrong != 0 || solved < PROBLEMS / 10 || without < PROBLEMS / 20) {
            System.exit(1);
        }
    }

    private void due(String what, long got, long want) {
        if (got != want) {
            wrong++;
            if (wrong < 20) {
                System.out.println("problem " + number + ": " + what + " answered " + got + ", due is " + want
                        + "\n" + calls);
            }
        }
    }

    private int upTo(int most) {
        return random.nextInt(most + 1);
    }

    private void compare() {
        tellIntervals();
        tellResources();
        tellRows();
        tellRest();
        collect(new int[n], 0);
        compareNarrow();
        compareSolve();
    }

    private void tellIntervals() {
        n = 2 + upTo(3);
        int span = n >= 5 ? 4 : n == 4 ? 6 : 9;
        length = new int[n];
        from = new int[n];
        to = new int[n];
        optional = new boolean[n];
        boolean sameLength = random.nextInt(3) == 0;
        for (int i = 0; i < n; i++) {
            length[i] = sameLength && i > 0 ? length[0] : upTo(4);
            from[i] = upTo(span / 2);
            to[i] = from[i] + upTo(span - from[i]);
            optional[i] = random.nextInt(3) == 0;
            x.interval(length[i], from[i], to[i], optional[i]);
            calls.append("interval(" + length[i] + ", " + from[i] + ", " + to[i] + ", " + optional[i] + ")\n");
        }
    }

    private void tellResources() {
        for (int r = 0; r < 3; r++) {
            if (random.nextInt(2) == 0) {
                capacity[r] = 1 + upTo(3);
                x.capacity(r, capacity[r]);
                calls.append("capacity(" + r + ", " + capacity[r] + ")\n");
                for (int i = 0; i < n; i++) {
                    need[r][i] = random.nextInt(2) == 0 ? 0 : upTo(capacity[r]);
                    x.need(r, i, need[r][i]);
                    calls.append("need(" + r + ", " + i + ", " + need[r][i] + ")\n");
                }
            }
        }
    }

    private void tellRows() {
        for (int k = 0; k < 2; k++) {
            if (random.nextInt(2) == 0) {
                for (int i = 0; i < n; i++) {
                    row[k][i] = random.nextInt(3) > 0;
                    if (row[k][i]) {
                        x.row(k, i);
                        calls.append("row(" + k + ", " + i + ")\n");
                    }
                }
                for (int a = 0; a < 4; a++) {
                    for (int b = 0; b < 4; b++) {
                        change[k][a][b] = random.nextInt(3) == 0 ? upTo(2) : 0;
                        x.change(k, a, b, change[k][a][b]);
                        calls.append("change(" + k + ", " + a + ", " + b + ", " + change[k][a][b] + ")\n");
                    }
                }
            }
        }
        for (int i = 0; i < n; i++) {
            kind[i] = upTo(3);
            x.kind(i, kind[i]);
            calls.append("kind(" + i + ", " + kind[i] + ")\n");
        }
    }

    private void tellRest() {
        for (int k = random.nextInt(3); k > 0; k--) {
            int a = upTo(n - 1), b = upTo(n - 1), lag = upTo(5) - 3;
            if (x.before(a, b, lag) > 0) {
                orders.add(new int[] {a, b, lag});
                calls.append("before(" + a + ", " + b + ", " + lag + ")\n");
            }
        }
        for (int k = random.nextInt(3); k > 0; k--) {
            int c = upTo(1), f = upTo(8), t = f + 1 + upTo(2);
            breaks.add(new int[] {c, f, t});
            x.pause(c, f, t);
            calls.append("pause(" + c + ", " + f + ", " + t + ")\n");
        }
        for (int i = 0; i < n; i++) {
            calendar[i] = upTo(2) - 1;
            x.calendar(i, calendar[i]);
            calls.append("calendar(" + i + ", " + calendar[i] + ")\n");
        }
        for (int k = 0; k < 2; k++) {
            if (random.nextInt(3) == 0) {
                store[k] = new int[] {upTo(4), 0, 3 + upTo(3)};
                x.store(k, store[k][0], store[k][1], store[k][2]);
                calls.append("store(" + k + ", " + store[k][0] + ", " + store[k][1] + ", " + store[k][2] + ")\n");
                for (int j = random.nextInt(4); j > 0; j--) {
                    int i = upTo(n - 1), v = upTo(6) - 3, end = upTo(1);
                    if (x.event(k, i, end == 1, v) > 0) {
                        events.add(new int[] {k, i, end, v});
                        calls.append("event(" + k + ", " + i + ", " + (end == 1) + ", " + v + ")\n");
                    }
                }
            }
        }
        for (int k = random.nextInt(6); k > 0; k--) {
            int m = upTo(1), i = upTo(n - 1);
            if (x.option(m, i) > 0) {
                master[i] = m;
                calls.append("option(" + m + ", " + i + ")\n");
            }
        }
    }

    /** All plans in the document's order. */
    private void collect(int[] starts, int i) {
        if (i == n) {
            if (firstBroken(starts) == 0) {
                plans.add(starts.clone());
            }
            return;
        }
        for (int s = from[i]; s <= to[i]; s++) {
            starts[i] = s;
            collect(starts, i + 1);
        }
        if (optional[i]) {
            starts[i] = ABSENT;
            collect(starts, i + 1);
        }
    }

    private int firstBroken(int[] s) {
        for (int[] o : orders) {
            if (s[o[0]] >= 0 && s[o[1]] >= 0 && s[o[1]] < s[o[0]] + length[o[0]] + o[2]) {
                return 1;
            }
        }
        for (int i = 0; i < n; i++) {
            for (int[] b : breaks) {
                for (int t = b[1]; t < b[2]; t++) {
                    if (s[i] >= 0 && b[0] == calendar[i] && t >= s[i] && t < s[i] + length[i]) {
                        return 2;
                    }
                }
            }
        }
        for (int r = 0; r < 3; r++) {
            for (int t = 0; t < 20; t++) {
                int sum = 0;
                for (int i = 0; i < n; i++) {
                    sum += s[i] >= 0 && s[i] <= t && t < s[i] + length[i] ? need[r][i] : 0;
                }
                if (sum > capacity[r]) {
                    return 3;
                }
            }
        }
        for (int k = 0; k < 2; k++) {
            for (int i = 0; i < n; i++) {
                for (int j = i + 1; j < n; j++) {
                    if (row[k][i] && row[k][j] && s[i] >= 0 && s[j] >= 0
                            && s[i] + length[i] + change[k][kind[i]][kind[j]] > s[j]
                            && s[j] + length[j] + change[k][kind[j]][kind[i]] > s[i]) {
                        return 5;
                    }
                }
            }
        }
        for (int k = 0; k < 2; k++) {
            if (!storeHolds(k, s)) {
                return 8;
            }
        }
        for (int m = 0; m < n; m++) {
            int options = 0, present = 0;
            for (int i = 0; i < n; i++) {
                if (master[i] == m) {
                    options++;
                    present += s[i] >= 0 ? 1 : 0;
                    if (s[i] >= 0 && s[i] != s[m]) {
                        return 9;
                    }
                }
            }
            if (options > 0 && present != (s[m] >= 0 ? 1 : 0)) {
                return 9;
            }
        }
        return 0;
    }

    private boolean storeHolds(int k, int[] s) {
        boolean has = false;
        for (int[] e : events) {
            has |= e[0] == k;
        }
        for (int t = -1; t < 30 && has; t++) {
            int level = store[k][0];
            for (int[] e : events) {
                if (e[0] == k && s[e[1]] >= 0 && s[e[1]] + e[2] * length[e[1]] <= t) {
                    level += e[3];
                }
            }
            if (level < store[k][1] || level > store[k][2]) {
                return false;
            }
        }
        return true;
    }

    private int endOf(int[] s) {
        int end = 0;
        for (int i = 0; i < n; i++) {
            end = Math.max(end, s[i] >= 0 ? s[i] + length[i] : 0);
        }
        return end;
    }

    private void compareNarrow() {
        x.keep();
        int answer = x.narrow();
        calls.append("narrow()\n");
        if (answer == 0) {
            due("narrow()", answer, plans.isEmpty() ? 0 : 1);
            due("told(2)", x.told(2), 0);
        } else {
            due("told(0)", x.told(0), 0);
            for (int[] plan : plans) {
                for (int i = 0; i < n; i++) {
                    if (plan[i] < 0) {
                        due("whether " + i + " may be absent", x.about(i, 2) == 1 ? 0 : 1, 1);
                    } else {
                        due("whether " + i + " may be present", x.about(i, 2) == 0 ? 0 : 1, 1);
                        due("whether " + i + " may start at " + plan[i],
                                x.about(i, 0) <= plan[i] && plan[i] <= x.about(i, 1) ? 1 : 0, 1);
                    }
                }
            }
        }
        if (random.nextInt(2) == 0) {
            x.back();
        }
    }

    private void compareSolve() {
        int answer = x.solve(400);
        calls.append("solve(400)\n");
        if (answer == 2 || answer == TimeResources.CUT) {
            cut++;
            due("count(1)", x.count(1), 400);
            compareCut(answer);
            return;
        }
        int[] best = null;
        for (int[] plan : plans) {
            if (best == null || endOf(plan) < endOf(best)) {
                best = plan;
            }
        }
        due("solve(400)", answer, best == null ? 0 : 1);
        if (best == null) {
            without++;
            due("check()", x.check(), TimeResources.NONE);
            due("count(0)", x.count(0), TimeResources.NONE);
            return;
        }
        solved++;
        due("count(0)", x.count(0), endOf(best));
        due("check()", x.check(), 0);
        for (int i = 0; i < n; i++) {
            due("plan(" + i + ")", x.plan(i), best[i]);
        }
        compareCheck(best);
    }

    private void compareCut(int answer) {
        if (answer == TimeResources.CUT) {
            due("check()", x.check(), TimeResources.NONE);
            return;
        }
        int[] s = new int[n];
        for (int i = 0; i < n; i++) {
            s[i] = x.plan(i);
        }
        due("firstBroken of a cut plan", firstBroken(s), 0);
        due("count(0)", x.count(0), endOf(s));
        due("check()", x.check(), 0);
    }

    /** What is told behind solve() may break the plan; it is told by turns. */
    private void compareCheck(int[] best) {
        for (int turn = 0; turn < 6; turn++) {
            int i = upTo(n - 1), k = upTo(1);
            switch (turn) {
                case 0:
                    need[k][i] = upTo(4);
                    x.need(k, i, need[k][i]);
                    calls.append("need(" + k + ", " + i + ", " + need[k][i] + ")\n");
                    break;
                case 1:
                    row[k][i] = true;
                    x.row(k, i);
                    calls.append("row(" + k + ", " + i + ")\n");
                    break;
                case 2:
                    store[k] = new int[] {upTo(4), 0, 4};
                    x.store(k, store[k][0], 0, 4);
                    calls.append("store(" + k + ", " + store[k][0] + ", 0, 4)\n");
                    break;
                case 3:
                    int m = upTo(n - 1);
                    if (x.option(m, i) > 0) {
                        master[i] = m;
                        calls.append("option(" + m + ", " + i + ")\n");
                    }
                    break;
                case 4:
                    calendar[i] = k;
                    x.calendar(i, k);
                    calls.append("calendar(" + i + ", " + k + ")\n");
                    break;
                default:
                    int other = upTo(n - 1);
                    if (x.before(other, i, k) > 0) {
                        orders.add(new int[] {other, i, k});
                        calls.append("before(" + other + ", " + i + ", " + k + ")\n");
                    }
                    break;
            }
            due("check() behind turn " + turn, x.check(), firstBroken(best));
        }
    }
}
