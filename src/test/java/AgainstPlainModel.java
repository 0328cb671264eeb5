import java.util.ArrayList;
import java.util.Arrays;
import java.util.List;
import java.util.Random;

/**
 * Random runs of calls, right and wrong ones, on an object and on a second writing of the document that
 * takes no short way: sums anew at each time, tries each start, stops by an exception. Every answer is
 * compared.
 */
public final class AgainstPlainModel {
    private static final int RUNS = 3000;
    private static final int TIGHT_RUNS = 20000;
    private static final int CALLS = 160;
    private static final int BAD = -1, NONE = -2, FULL = -3, CUT = -4;
    private static int wrong = 0;
    private static final int[] failedAt = new int[10];
    private static final int[] brokenAt = new int[10];
    private static final int[] solveAnswers = new int[8];

    private static final class Fail extends RuntimeException {
        private static final long serialVersionUID = 1L;

        Fail() {
            super(null, null, false, false);
        }
    }

    private static final class Interval {
        int p, e, l, presence, calendar = NONE, kind, master = NONE;
        int[] need = new int[3];
        boolean[] row = new boolean[2];

        boolean here() {
            return presence == 1;
        }

        boolean gone() {
            return presence == 0;
        }
    }

    private static final class Model {
        final List<Interval> all = new ArrayList<>();
        final int[] capacity = new int[3];
        final List<List<int[]>> breaks = List.of(new ArrayList<>(), new ArrayList<>());
        final int[][][] change = new int[2][4][4];
        final List<int[]> orders = new ArrayList<>();
        final int[][] store = {{0, -100, 100}, {0, -100, 100}};
        final List<List<int[]>> events = List.of(new ArrayList<>(), new ArrayList<>());
        int[] told = new int[3];
        int[][] kept;
        int[] plan;
        int planEnd, tries, limit;
        boolean cut, changed;
        int rule, rounds;

        static boolean in(int v, int a, int b) {
            return a <= v && v <= b;
        }

        boolean is(int i) {
            return in(i, 0, all.size() - 1);
        }

        Interval at(int i) {
            return all.get(i);
        }

        int interval(int p, int e, int l, boolean optional) {
            if (!in(p, 0, 30) || !in(e, 0, 100) || !in(l, 0, 100) || l < e) {
                return BAD;
            }
            if (all.size() == 10) {
                return FULL;
            }
            Interval x = new Interval();
            x.p = p;
            x.e = e;
            x.l = l;
            x.presence = optional ? 2 : 1;
            all.add(x);
            return all.size() - 1;
        }

        int capacity(int r, int c) {
            if (!in(r, 0, 2) || !in(c, 0, 20)) {
                return BAD;
            }
            int was = capacity[r];
            capacity[r] = c;
            return was;
        }

        int need(int r, int i, int h) {
            if (!in(r, 0, 2) || !is(i) || !in(h, 0, 20)) {
                return BAD;
            }
            int was = at(i).need[r];
            at(i).need[r] = h;
            return was;
        }

        int pause(int c, int from, int to) {
            if (!in(c, 0, 1) || !in(from, 0, 130) || !in(to, 1, 131) || to <= from) {
                return BAD;
            }
            if (breaks.get(c).size() == 6) {
                return FULL;
            }
            breaks.get(c).add(new int[] {from, to});
            return breaks.get(c).size();
        }

        int calendar(int i, int c) {
            if (!is(i) || !in(c, -1, 1)) {
                return BAD;
            }
            int was = at(i).calendar;
            at(i).calendar = c == -1 ? NONE : c;
            return was;
        }

        int row(int k, int i) {
            if (!in(k, 0, 1) || !is(i)) {
                return BAD;
            }
            if (at(i).row[k]) {
                return 0;
            }
            at(i).row[k] = true;
            return 1;
        }

        int kind(int i, int k) {
            if (!is(i) || !in(k, 0, 3)) {
                return BAD;
            }
            int was = at(i).kind;
            at(i).kind = k;
            return was;
        }

        int change(int row, int a, int b, int v) {
            if (!in(row, 0, 1) || !in(a, 0, 3) || !in(b, 0, 3) || !in(v, 0, 20)) {
                return BAD;
            }
            int was = change[row][a][b];
            change[row][a][b] = v;
            return was;
        }

        int triangle(int row) {
            if (!in(row, 0, 1)) {
                return BAD;
            }
            int[][] c = change[row];
            for (int k = 0; k < 64; k++) {
                if (c[k / 16][k % 4] > c[k / 16][k / 4 % 4] + c[k / 4 % 4][k % 4]) {
                    return 0;
                }
            }
            return 1;
        }

        int before(int a, int b, int lag) {
            if (!is(a) || !is(b) || a == b || !in(lag, -30, 30)) {
                return BAD;
            }
            if (orders.size() == 20) {
                return FULL;
            }
            orders.add(new int[] {a, b, lag});
            return orders.size();
        }

        int store(int k, int begin, int least, int most) {
            if (!in(k, 0, 1) || !in(begin, -100, 100) || !in(least, -100, 100) || !in(most, -100, 100)
                    || least > most) {
                return BAD;
            }
            store[k] = new int[] {begin, least, most};
            return 1;
        }

        int event(int k, int i, boolean atEnd, int v) {
            if (!in(k, 0, 1) || !is(i) || !in(v, -50, 50) || v == 0) {
                return BAD;
            }
            if (events.get(k).size() == 10) {
                return FULL;
            }
            events.get(k).add(new int[] {i, atEnd ? 1 : 0, v});
            return events.get(k).size();
        }

        int options(int m) {
            int count = 0;
            for (Interval x : all) {
                count += x.master == m ? 1 : 0;
            }
            return count;
        }

        int option(int m, int i) {
            if (!is(m) || !is(i) || m == i || at(m).p != at(i).p || at(m).master != NONE || at(i).master != NONE
                    || options(i) > 0) {
                return BAD;
            }
            at(i).master = m;
            return options(m);
        }

        int fix(int i, int what, int v) {
            if (!is(i) || !in(what, 0, 3) || what < 2 && !in(v, 0, 100)) {
                return BAD;
            }
            Interval x = at(i);
            if (what == 3) {
                if (x.here()) {
                    return 0;
                }
                x.presence = 0;
                return 1;
            }
            if (x.gone() || what == 0 && v > x.l || what == 1 && v < x.e) {
                return 0;
            }
            if (what == 0) {
                x.e = Math.max(x.e, v);
            } else if (what == 1) {
                x.l = Math.min(x.l, v);
            } else {
                x.presence = 1;
            }
            return 1;
        }

        int[][] state() {
            int[][] s = new int[all.size()][];
            for (int i = 0; i < s.length; i++) {
                s[i] = new int[] {at(i).e, at(i).l, at(i).presence};
            }
            return s;
        }

        void restore(int[][] s) {
            for (int i = 0; i < s.length; i++) {
                at(i).e = s[i][0];
                at(i).l = s[i][1];
                at(i).presence = s[i][2];
            }
        }

        int narrow() {
            int[][] was = state();
            boolean ok = allRules();
            if (!ok) {
                restore(was);
                failedAt[rule]++;
            }
            int differ = 0;
            int[][] now = state();
            for (int i = 0; i < was.length; i++) {
                for (int k = 0; k < 3; k++) {
                    differ += was[i][k] != now[i][k] ? 1 : 0;
                }
            }
            told = new int[] {rule, rounds, differ};
            return ok ? 1 : 0;
        }

        int told(int what) {
            return in(what, 0, 2) ? told[what] : BAD;
        }

        int about(int i, int what) {
            if (!is(i) || !in(what, 0, 7)) {
                return BAD;
            }
            Interval x = at(i);
            return new int[] {x.e, x.l, x.presence, x.p, x.kind, x.calendar, x.master, options(i)}[what];
        }

        int keep() {
            kept = state();
            return 1;
        }

        int back() {
            if (kept == null) {
                return NONE;
            }
            restore(kept);
            return kept.length;
        }

        int plan(int i) {
            if (!is(i)) {
                return BAD;
            }
            return plan == null || i >= plan.length ? NONE : plan[i];
        }

        int count(int what) {
            int[] of = new int[3];
            for (Interval x : all) {
                of[x.presence]++;
            }
            switch (what) {
                case 0: return plan == null ? NONE : planEnd;
                case 1: return tries;
                case 2: return all.size();
                case 3: return orders.size();
                case 4: return of[1];
                case 5: return of[0];
                case 6: return of[2];
                default: return BAD;
            }
        }

        int use(int r, int t) {
            return !in(r, 0, 2) || !in(t, 0, 130) ? BAD : use(r, t, null);
        }

        int use(int r, int t, Interval but) {
            int sum = 0;
            for (Interval x : all) {
                if (x != but && x.here() && x.l <= t && t < x.e + x.p) {
                    sum += x.need[r];
                }
            }
            return sum;
        }

        // ---- the rules

        void narrowE(Interval x, int v) {
            if (x.gone() || v <= x.e) {
                return;
            }
            if (v > x.l) {
                leaveOut(x);
            } else {
                x.e = v;
                changed = true;
            }
        }

        void narrowL(Interval x, int v) {
            if (x.gone() || v >= x.l) {
                return;
            }
            if (v < x.e) {
                leaveOut(x);
            } else {
                x.l = v;
                changed = true;
            }
        }

        void leaveOut(Interval x) {
            if (x.here()) {
                throw new Fail();
            }
            if (!x.gone()) {
                x.presence = 0;
                changed = true;
            }
        }

        void failIf(boolean fails) {
            if (fails) {
                throw new Fail();
            }
        }

        boolean allRules() {
            rounds = 0;
            try {
                do {
                    changed = false;
                    rounds++;
                    rule = 1;
                    orders();
                    rule = 2;
                    breaks();
                    rule = 3;
                    capacities();
                    rule = 4;
                    work();
                    rule = 5;
                    pairs();
                    rule = 6;
                    sets();
                    rule = 7;
                    sets();
                    rule = 8;
                    stores();
                    rule = 9;
                    choices();
                } while (changed);
                rule = 0;
                return true;
            } catch (Fail f) {
                return false;
            }
        }

        void orders() {
            for (int[] o : orders) {
                Interval a = at(o[0]), b = at(o[1]);
                if (a.here() && !b.gone()) {
                    narrowE(b, a.e + a.p + o[2]);
                }
                if (b.here() && !a.gone()) {
                    narrowL(a, b.l - o[2] - a.p);
                }
            }
        }

        boolean meets(Interval x, int start) {
            if (x.calendar != NONE) {
                for (int[] pause : breaks.get(x.calendar)) {
                    for (int t = start; t < start + x.p; t++) {
                        if (t >= pause[0] && t < pause[1]) {
                            return true;
                        }
                    }
                }
            }
            return false;
        }

        void breaks() {
            for (Interval x : all) {
                if (x.calendar != NONE && x.p > 0 && !x.gone()) {
                    int s = x.e;
                    while (meets(x, s)) {
                        s++;
                    }
                    narrowE(x, s);
                    if (!x.gone()) {
                        s = x.l;
                        while (meets(x, s)) {
                            s--;
                        }
                        narrowL(x, s);
                    }
                }
            }
        }

        boolean fits(int r, Interval x, int start) {
            for (int t = start; t < start + x.p; t++) {
                if (use(r, t, x) + x.need[r] > capacity[r]) {
                    return false;
                }
            }
            return true;
        }

        void capacities() {
            for (int r = 0; r < 3; r++) {
                for (int t = 0; t <= 130; t++) {
                    failIf(use(r, t, null) > capacity[r]);
                }
                for (Interval x : all) {
                    if (x.need[r] > 0 && x.p > 0 && !x.gone()) {
                        int s = x.e;
                        while (s <= x.l && !fits(r, x, s)) {
                            s++;
                        }
                        narrowE(x, s);
                        if (!x.gone()) {
                            s = x.l;
                            while (s >= x.e && !fits(r, x, s)) {
                                s--;
                            }
                            narrowL(x, s);
                        }
                    }
                }
            }
        }

        int leastWork(int r, int a, int b, Interval but) {
            int sum = 0;
            for (Interval x : all) {
                if (x != but && x.here()) {
                    int w = Math.min(Math.min(x.p, b - a), Math.min(x.e + x.p - a, b - x.l));
                    sum += x.need[r] * Math.max(0, w);
                }
            }
            return sum;
        }

        void work() {
            for (int r = 0; r < 3; r++) {
                for (Interval first : all) {
                    if (!first.here() || first.need[r] == 0) {
                        continue;
                    }
                    int a = first.e;
                    for (Interval second : all) {
                        if (!second.here() || second.need[r] == 0) {
                            continue;
                        }
                        int b = second.l + second.p;
                        if (a < b) {
                            workBetween(r, a, b);
                        }
                    }
                }
            }
        }

        void workBetween(int r, int a, int b) {
            int product = capacity[r] * (b - a);
            failIf(leastWork(r, a, b, null) > product);
            for (Interval x : all) {
                int h = x.need[r];
                if (h == 0 || x.gone()) {
                    continue;
                }
                int room = product - leastWork(r, a, b, x);
                failIf(room < 0);
                int left = Math.min(x.e + x.p, b) - Math.max(x.e, a);
                if (h * left > room) {
                    narrowE(x, b - room / h);
                }
                if (x.gone()) {
                    continue;
                }
                int right = Math.min(x.l + x.p, b) - Math.max(x.l, a);
                if (h * right > room) {
                    narrowL(x, a + room / h - x.p);
                }
            }
        }

        void pairs() {
            for (int k = 0; k < 2; k++) {
                for (int i = 0; i < all.size(); i++) {
                    for (int j = i + 1; j < all.size(); j++) {
                        Interval x = at(i), y = at(j);
                        if (x.row[k] && y.row[k] && !x.gone() && !y.gone() && (x.here() || y.here())) {
                            pair(x, y, change[k][x.kind][y.kind], change[k][y.kind][x.kind]);
                        }
                    }
                }
            }
        }

        void pair(Interval x, Interval y, int xy, int yx) {
            boolean xFirst = x.e + x.p + xy <= y.l, yFirst = y.e + y.p + yx <= x.l;
            if (!xFirst && !yFirst) {
                failIf(x.here() && y.here());
                leaveOut(x.here() ? y : x);
            } else if (xFirst && !yFirst) {
                ahead(x, y, xy);
            } else if (yFirst && !xFirst) {
                ahead(y, x, yx);
            }
        }

        void ahead(Interval x, Interval y, int gap) {
            if (x.here()) {
                narrowE(y, x.e + x.p + gap);
            }
            if (y.here()) {
                narrowL(x, y.l - gap - x.p);
            }
        }

        void sets() {
            for (int k = 0; k < 2; k++) {
                for (Interval first : all) {
                    if (!first.row[k] || !first.here()) {
                        continue;
                    }
                    int a = first.e;
                    for (Interval second : all) {
                        if (!second.row[k] || !second.here()) {
                            continue;
                        }
                        int b = second.l + second.p;
                        if (a < b) {
                            set(k, a, b);
                        }
                    }
                }
            }
        }

        void set(int k, int a, int b) {
            List<Interval> set = new ArrayList<>();
            int sum = 0;
            for (Interval x : all) {
                if (x.row[k] && x.here() && x.e >= a && x.l + x.p <= b) {
                    set.add(x);
                    sum += x.p;
                }
            }
            failIf(rule == 6 && sum > b - a);
            for (Interval x : all) {
                if (!set.isEmpty() && x.row[k] && !x.gone() && !set.contains(x)) {
                    if (rule == 6) {
                        edges(set, sum, a, b, x);
                    } else {
                        notFirstNotLast(set, sum, a, b, x);
                    }
                }
            }
        }

        void edges(List<Interval> set, int sum, int a, int b, Interval x) {
            if (Math.min(a, x.e) + sum + x.p > b) {
                int most = Integer.MIN_VALUE;
                for (Interval y : set) {
                    int v = y.e;
                    for (Interval z : set) {
                        v += z.e >= y.e ? z.p : 0;
                    }
                    most = Math.max(most, v);
                }
                narrowE(x, most);
            }
            if (!x.gone() && sum + x.p > Math.max(b, x.l + x.p) - a) {
                int least = Integer.MAX_VALUE;
                for (Interval y : set) {
                    int v = y.l + y.p;
                    for (Interval z : set) {
                        v -= z.l + z.p <= y.l + y.p ? z.p : 0;
                    }
                    least = Math.min(least, v);
                }
                narrowL(x, least - x.p);
            }
        }

        void notFirstNotLast(List<Interval> set, int sum, int a, int b, Interval x) {
            if (x.e + x.p + sum > b) {
                int least = Integer.MAX_VALUE;
                for (Interval y : set) {
                    least = Math.min(least, y.e + y.p);
                }
                narrowE(x, least);
            }
            if (!x.gone() && x.l < a + sum) {
                int most = Integer.MIN_VALUE;
                for (Interval y : set) {
                    most = Math.max(most, y.l);
                }
                narrowL(x, most - x.p);
            }
        }

        void stores() {
            for (int k = 0; k < 2; k++) {
                if (events.get(k).isEmpty()) {
                    continue;
                }
                failIf(store[k][0] < store[k][1] || store[k][0] > store[k][2]);
                for (int t = 0; t <= 130; t++) {
                    int most = store[k][0], least = store[k][0];
                    for (int[] e : events.get(k)) {
                        Interval x = at(e[0]);
                        int early = x.e + e[1] * x.p, late = x.l + e[1] * x.p;
                        if (e[2] > 0 && !x.gone() && early <= t) {
                            most += e[2];
                        }
                        if (e[2] < 0 && x.here() && late <= t) {
                            most += e[2];
                        }
                        if (e[2] < 0 && !x.gone() && early <= t) {
                            least += e[2];
                        }
                        if (e[2] > 0 && x.here() && late <= t) {
                            least += e[2];
                        }
                    }
                    failIf(most < store[k][1] || least > store[k][2]);
                }
            }
        }

        void choices() {
            for (int m = 0; m < all.size(); m++) {
                List<Interval> options = new ArrayList<>();
                for (Interval x : all) {
                    if (x.master == m) {
                        options.add(x);
                    }
                }
                if (!options.isEmpty()) {
                    choice(at(m), options);
                }
            }
        }

        void choice(Interval m, List<Interval> options) {
            int left = 0, here = 0;
            for (Interval o : options) {
                left += o.gone() ? 0 : 1;
                here += o.here() ? 1 : 0;
            }
            if (left == 0) {
                leaveOut(m);
            }
            if (m.gone()) {
                for (Interval o : options) {
                    leaveOut(o);
                }
                return;
            }
            if (here > 0 && !m.here()) {
                m.presence = 1;
                changed = true;
            }
            for (Interval o : options) {
                if (m.here() && left == 1 && !o.gone() && !o.here()) {
                    o.presence = 1;
                    here = 1;
                    changed = true;
                }
            }
            failIf(here > 1);
            for (Interval o : options) {
                if (here == 1 && !o.here()) {
                    leaveOut(o);
                }
            }
            int least = 1000, most = -1000;
            for (Interval o : options) {
                least = o.gone() ? least : Math.min(least, o.e);
                most = o.gone() ? most : Math.max(most, o.l);
            }
            narrowE(m, least);
            narrowL(m, most);
            if (!m.gone()) {
                for (Interval o : options) {
                    narrowE(o, m.e);
                    narrowL(o, m.l);
                }
            }
        }

        // ---- the search

        int solve(int most) {
            if (!in(most, 1, 400)) {
                return BAD;
            }
            int[][] was = state();
            plan = null;
            tries = 0;
            limit = most;
            cut = false;
            if (allRules()) {
                from(0);
            }
            restore(was);
            int answer = plan == null ? cut ? CUT : 0 : cut ? 2 : 1;
            solveAnswers[answer + 4]++;
            return answer;
        }

        void from(int i) {
            if (i == all.size()) {
                int end = 0;
                for (Interval x : all) {
                    end = x.here() ? Math.max(end, x.e + x.p) : end;
                }
                if (plan == null || end < planEnd) {
                    planEnd = end;
                    plan = new int[i];
                    for (int k = 0; k < i; k++) {
                        plan[k] = at(k).here() ? at(k).e : NONE;
                    }
                }
                return;
            }
            if (at(i).gone()) {
                from(i + 1);
                return;
            }
            int[][] was = state();
            for (int s = was[i][0]; s <= was[i][1]; s++) {
                one(i, was, s, s, 1);
            }
            if (was[i][2] == 2) {
                one(i, was, was[i][0], was[i][1], 0);
            }
        }

        void one(int i, int[][] was, int e, int l, int presence) {
            if (tries == limit) {
                cut = true;
            }
            if (cut) {
                return;
            }
            tries++;
            restore(was);
            at(i).e = e;
            at(i).l = l;
            at(i).presence = presence;
            try {
                if (plan != null) {
                    for (Interval x : all) {
                        narrowL(x, planEnd - 1 - x.p);
                    }
                }
            } catch (Fail f) {
                return;
            }
            if (allRules()) {
                from(i + 1);
            }
        }

        // ---- the check

        int s(int i) {
            return plan(i);
        }

        int check() {
            if (plan == null) {
                return NONE;
            }
            int broken = broken();
            brokenAt[broken]++;
            return broken;
        }

        int broken() {
            for (int[] o : orders) {
                if (s(o[0]) >= 0 && s(o[1]) >= 0 && s(o[0]) + at(o[0]).p + o[2] > s(o[1])) {
                    return 1;
                }
            }
            for (int i = 0; i < all.size(); i++) {
                if (s(i) >= 0 && meets(at(i), s(i))) {
                    return 2;
                }
            }
            for (int r = 0; r < 3; r++) {
                for (int t = 0; t <= 130; t++) {
                    int sum = 0;
                    for (int i = 0; i < all.size(); i++) {
                        sum += s(i) >= 0 && s(i) <= t && t < s(i) + at(i).p ? at(i).need[r] : 0;
                    }
                    if (sum > capacity[r]) {
                        return 3;
                    }
                }
            }
            for (int k = 0; k < 2; k++) {
                for (int i = 0; i < all.size(); i++) {
                    for (int j = 0; j < i; j++) {
                        Interval x = at(i), y = at(j);
                        if (x.row[k] && y.row[k] && s(i) >= 0 && s(j) >= 0
                                && s(i) + x.p + change[k][x.kind][y.kind] > s(j)
                                && s(j) + y.p + change[k][y.kind][x.kind] > s(i)) {
                            return 5;
                        }
                    }
                }
            }
            for (int k = 0; k < 2; k++) {
                for (int t = -1; t <= 130 && !events.get(k).isEmpty(); t++) {
                    int level = store[k][0];
                    for (int[] e : events.get(k)) {
                        level += s(e[0]) >= 0 && s(e[0]) + e[1] * at(e[0]).p <= t ? e[2] : 0;
                    }
                    if (level < store[k][1] || level > store[k][2]) {
                        return 8;
                    }
                }
            }
            for (int m = 0; m < all.size(); m++) {
                int here = 0;
                for (int i = 0; i < all.size(); i++) {
                    if (at(i).master == m && s(i) >= 0) {
                        here++;
                        if (s(i) != s(m)) {
                            return 9;
                        }
                    }
                }
                if (options(m) > 0 && here != (s(m) >= 0 ? 1 : 0)) {
                    return 9;
                }
            }
            return 0;
        }
    }

    private final TimeResources x = new TimeResources();
    private final Model y = new Model();
    private final Random random;
    private final int run;
    private final int span;
    private final int lengths;
    private final boolean isCrowded;
    private final int focus;
    private final StringBuilder calls = new StringBuilder();

    private AgainstPlainModel(int run) {
        this.run = run;
        this.random = new Random(7919L * run + 1);
        this.span = new int[] {5, 10, 20, 40, 100}[run % 5];
        this.lengths = new int[] {3, 5, 8, 30}[run / 5 % 4];
        this.isCrowded = run % 3 == 0;
        this.focus = run / 20 % 4;
    }

    public static void main(String[] args) {
        for (int run = 0; run < RUNS && wrong == 0; run++) {
            new AgainstPlainModel(run).compare();
        }
        for (int run = RUNS; run < RUNS + TIGHT_RUNS && wrong == 0; run++) {
            new AgainstPlainModel(run).compareTight();
        }
        System.out.println(RUNS + TIGHT_RUNS + " runs; rules that failed " + Arrays.toString(failedAt) + ", that check() found "
                + Arrays.toString(brokenAt) + ", answers of solve() from CUT on " + Arrays.toString(solveAnswers));
        boolean isThin = solveAnswers[0] == 0 || solveAnswers[4] == 0 || solveAnswers[5] == 0 || solveAnswers[6] == 0;
        for (int rule : new int[] {1, 2, 3, 5, 8, 9}) {
            isThin |= failedAt[rule] == 0 || brokenAt[rule] == 0;
        }
        isThin |= failedAt[4] == 0 || failedAt[6] == 0 || failedAt[7] == 0;
        if (isThin) {
            System.out.println("the runs leave something out");
        }
        if (wrong != 0 || isThin) {
            System.exit(1);
        }
    }

    private void due(String call, int got, int want) {
        calls.append(call).append(" -> ").append(want).append('\n');
        if (got != want && wrong == 0) {
            wrong++;
            System.out.println("run " + run + ": " + call + " answered " + got + ", due is " + want + "\n" + calls);
        }
    }

    /** Mostly right, at times just beside, at times far off. */
    private int some(int least, int most) {
        int luck = random.nextInt(400);
        if (luck == 0) {
            return least - 1;
        }
        if (luck == 1) {
            return most + 1;
        }
        if (luck == 2) {
            return random.nextBoolean() ? Integer.MAX_VALUE : Integer.MIN_VALUE;
        }
        return least + random.nextInt(Math.max(1, most - least + 1));
    }

    private int one() {
        return some(0, y.all.size() - 1);
    }

    private void compare() {
        for (int k = 0; k < CALLS && wrong == 0; k++) {
            call(k < 4 ? 0 : random.nextInt(isCrowded ? 46 : 40));
        }
    }

    /** One row or one resource with hardly any room: here alone WORK and NOT FIRST, NOT LAST come to fail. */
    private void compareTight() {
        boolean isRow = run % 2 == 0;
        int n = 3 + random.nextInt(5), limit = 2 + random.nextInt(3), total = 0;
        int[] p = new int[n], h = new int[n];
        for (int i = 0; i < n; i++) {
            p[i] = random.nextInt(12) == 0 ? 0 : 1 + random.nextInt(6);
            h[i] = isRow ? 1 : 1 + random.nextInt(limit);
            total += p[i] * h[i];
        }
        int room = (isRow ? total : total / limit) + random.nextInt(4);
        due("capacity(0, " + limit + ")", x.capacity(0, limit), y.capacity(0, limit));
        for (int i = 0; i < n; i++) {
            int e = random.nextInt(Math.max(1, room / 2)), l = Math.max(e, room - p[i] - random.nextInt(1 + room / 3));
            boolean optional = random.nextInt(6) == 0;
            due("interval(" + p[i] + ", " + e + ", " + l + ", " + optional + ")", x.interval(p[i], e, l, optional),
                    y.interval(p[i], e, l, optional));
            if (isRow) {
                due("row(0, " + i + ")", x.row(0, i), y.row(0, i));
            } else {
                due("need(0, " + i + ", " + h[i] + ")", x.need(0, i, h[i]), y.need(0, i, h[i]));
            }
        }
        askNarrow();
        if (run % 8 < 2) {
            askSolve();
        }
    }

    /** Most rules fail seldom while all others are about, so some runs tell of rows or resources alone. */
    private void call(int which) {
        boolean isOfResources = which >= 2 && which <= 5 || which == 40;
        boolean isOfRows = which >= 9 && which <= 12 || which == 41 || which == 42;
        boolean isOfOthers = which >= 6 && which <= 8 || which >= 14 && which <= 18 || which >= 43;
        if (focus == 1 && (isOfResources || isOfOthers)) {
            which = 9;
        } else if (focus == 2 && (isOfRows || isOfOthers)) {
            which = 4;
        } else if (focus == 3 && (isOfResources || isOfRows) && random.nextInt(4) > 0) {
            which = 17;
        }
        if (focus == 1 && which == 12 && random.nextInt(4) > 0) {
            which = 0;
        }
        switch (which) {
            case 0: case 1: tellInterval(); break;
            case 2: case 3: tellCapacity(); break;
            case 4: case 5: case 40: tellNeed(); break;
            case 6: tellPause(); break;
            case 7: case 8: tellCalendar(); break;
            case 9: case 10: case 41: case 42: tellRow(); break;
            case 11: tellKind(); break;
            case 12: tellChange(); break;
            case 13: tellTriangle(); break;
            case 14: case 43: tellOrder(); break;
            case 15: tellStore(); break;
            case 16: case 44: tellEvent(); break;
            case 17: case 18: case 45: tellOption(); break;
            case 19: case 20: tellFix(); break;
            case 21: case 22: case 23: case 24: askNarrow(); break;
            case 25: due("keep()", x.keep(), y.keep()); break;
            case 26: case 27: due("back()", x.back(), y.back()); askBounds(); break;
            case 28: case 29: case 30: askSolve(); break;
            case 31: askUse(); break;
            case 32: case 33: case 34: due("check()", x.check(), y.check()); break;
            default: askSome(); break;
        }
    }

    private void tellInterval() {
        int p = random.nextInt(3) == 0 ? 3 : some(0, lengths);
        int e = some(0, span / 2), l = random.nextInt(8) == 0 ? some(0, 100) : some(e, span);
        boolean optional = random.nextInt(3) == 0;
        due("interval(" + p + ", " + e + ", " + l + ", " + optional + ")", x.interval(p, e, l, optional),
                y.interval(p, e, l, optional));
    }

    private void tellCapacity() {
        int r = some(0, 2), c = random.nextInt(3) == 0 ? some(0, 20) : some(3, 8);
        due("capacity(" + r + ", " + c + ")", x.capacity(r, c), y.capacity(r, c));
    }

    private void tellNeed() {
        int r = some(0, 2), i = one();
        int h = r >= 0 && r < 3 && random.nextInt(6) > 0 ? some(0, y.capacity[r]) : some(0, 20);
        due("need(" + r + ", " + i + ", " + h + ")", x.need(r, i, h), y.need(r, i, h));
    }

    private void tellPause() {
        int c = some(0, 1), f = random.nextInt(5) == 0 ? some(0, 130) : some(0, span);
        int t = f < 200 && f > -5 ? f + some(0, 4) : f;
        due("pause(" + c + ", " + f + ", " + t + ")", x.pause(c, f, t), y.pause(c, f, t));
    }

    private void tellCalendar() {
        int i = one(), c = some(-1, 1);
        due("calendar(" + i + ", " + c + ")", x.calendar(i, c), y.calendar(i, c));
    }

    private void tellRow() {
        int k = some(0, 1), i = one();
        due("row(" + k + ", " + i + ")", x.row(k, i), y.row(k, i));
    }

    private void tellKind() {
        int i = one(), k = some(0, 3);
        due("kind(" + i + ", " + k + ")", x.kind(i, k), y.kind(i, k));
    }

    private void tellChange() {
        int r = some(0, 1), a = some(0, 3), b = some(0, 3), v = random.nextInt(8) == 0 ? some(0, 20) : some(0, 3);
        due("change(" + r + ", " + a + ", " + b + ", " + v + ")", x.change(r, a, b, v), y.change(r, a, b, v));
    }

    private void tellTriangle() {
        int r = some(0, 1);
        due("triangle(" + r + ")", x.triangle(r), y.triangle(r));
    }

    private void tellOrder() {
        int a = one(), b = one(), lag = random.nextInt(3) == 0 ? some(-30, 30) : some(-5, 3);
        due("before(" + a + ", " + b + ", " + lag + ")", x.before(a, b, lag), y.before(a, b, lag));
    }

    private void tellStore() {
        int k = some(0, 1), b = some(-1, 6), l = random.nextInt(6) == 0 ? some(-100, 100) : some(-8, 0);
        int m = random.nextInt(6) == 0 ? some(-100, 100) : some(5, 12);
        due("store(" + k + ", " + b + ", " + l + ", " + m + ")", x.store(k, b, l, m), y.store(k, b, l, m));
    }

    private void tellEvent() {
        int k = some(0, 1), i = one(), v = random.nextInt(6) == 0 ? some(-50, 50) : some(-4, 4);
        boolean end = random.nextBoolean();
        due("event(" + k + ", " + i + ", " + end + ", " + v + ")", x.event(k, i, end, v), y.event(k, i, end, v));
    }

    private void tellOption() {
        int m = one(), i = one();
        due("option(" + m + ", " + i + ")", x.option(m, i), y.option(m, i));
    }

    private void tellFix() {
        int i = one(), what = some(0, 3), v = some(0, random.nextInt(3) == 0 ? 100 : span);
        if (what == 0 && random.nextInt(3) > 0) {
            v = v / 2;
        }
        due("fix(" + i + ", " + what + ", " + v + ")", x.fix(i, what, v), y.fix(i, what, v));
    }

    private void askNarrow() {
        due("narrow()", x.narrow(), y.narrow());
        for (int what = 0; what < 3; what++) {
            due("told(" + what + ")", x.told(what), y.told(what));
        }
        askBounds();
        if (random.nextInt(2) == 0) {
            due("back()", x.back(), y.back());
        }
    }

    private void askBounds() {
        for (int i = 0; i < y.all.size(); i++) {
            for (int what = 0; what < 3; what++) {
                due("about(" + i + ", " + what + ")", x.about(i, what), y.about(i, what));
            }
        }
    }

    private void askSolve() {
        int tries = random.nextInt(2) == 0 ? some(1, 400) : some(1, 40);
        due("solve(" + tries + ")", x.solve(tries), y.solve(tries));
        for (int i = 0; i <= y.all.size(); i++) {
            due("plan(" + i + ")", x.plan(i), y.plan(i));
        }
        for (int what = 0; what < 7; what++) {
            due("count(" + what + ")", x.count(what), y.count(what));
        }
        due("check()", x.check(), y.check());
        due("told(1)", x.told(1), y.told(1));
        askBounds();
    }

    private void askUse() {
        for (int t = -1; t <= 131; t++) {
            int r = some(0, 2);
            due("use(" + r + ", " + t + ")", x.use(r, t), y.use(r, t));
        }
    }

    private void askSome() {
        int i = one(), what = some(0, 7), told = some(0, 2), count = some(0, 6);
        due("about(" + i + ", " + what + ")", x.about(i, what), y.about(i, what));
        due("told(" + told + ")", x.told(told), y.told(told));
        due("count(" + count + ")", x.count(count), y.count(count));
        due("plan(" + i + ")", x.plan(i), y.plan(i));
    }
}
