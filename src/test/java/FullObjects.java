/**
 * Objects that are full: ten intervals, twenty ORDERS, six breaks, ten EVENTS, nine options. Each RULE
 * goes up to the last.
 */
public final class FullObjects {
    private static final int NONE = TimeResources.NONE, FULL = TimeResources.FULL;
    private static String about = "";
    private static int wrong = 0;
    private static TimeResources x;

    private static void due(String what, int got, int want) {
        if (got != want) {
            wrong++;
            System.out.println(about + ": " + what + " answered " + got + ", due is " + want);
        }
    }

    public static void main(String[] args) {
        orders();
        breaks();
        capacities();
        work();
        rows();
        stores();
        options();
        openOnes();
        allTogether();
        lastIsAbsent();
        System.out.println(wrong == 0 ? "full objects answer as due" : wrong + " answers are not as due");
        if (wrong != 0) {
            System.exit(1);
        }
    }

    private static void ten(String what, int length, int from, int to, boolean optional) {
        about = what;
        x = new TimeResources();
        for (int i = 0; i < 10; i++) {
            due("interval " + i, x.interval(length, from, to, optional), i);
        }
        due("an eleventh", x.interval(length, from, to, optional), FULL);
    }

    private static void dueBounds(int i, int first, int last, int presence) {
        due("e of " + i, x.about(i, 0), first);
        due("l of " + i, x.about(i, 1), last);
        due("PRESENCE of " + i, x.about(i, 2), presence);
    }

    private static void orders() {
        ten("orders", 2, 0, 30, false);
        for (int k = 0; k < 20; k++) {
            int i = k % 9;
            due("order " + k, x.before(i, i + 1, 1), k + 1);
        }
        due("one more", x.before(0, 1, 2), FULL);
        due("narrow()", x.narrow(), 1);
        for (int i = 0; i < 10; i++) {
            dueBounds(i, 3 * i, 30 - 3 * (9 - i), 1);
        }
        due("told(2)", x.told(2), 18);
    }

    private static void breaks() {
        ten("breaks", 2, 0, 100, false);
        for (int k = 0; k < 6; k++) {
            due("break " + k, x.pause(0, 3 * k, 3 * k + 2), k + 1);
            due("break " + k, x.pause(1, 101 - 3 * k, 103 - 3 * k), k + 1);
        }
        due("one more", x.pause(0, 50, 60), FULL);
        due("one more", x.pause(1, 50, 60), FULL);
        for (int i = 0; i < 10; i++) {
            x.calendar(i, i % 2);
        }
        due("narrow()", x.narrow(), 1);
        for (int i = 0; i < 10; i++) {
            dueBounds(i, i % 2 == 0 ? 17 : 0, i % 2 == 0 ? 100 : 84, 1);
        }
    }

    private static void capacities() {
        ten("capacities", 2, 5, 5, false);
        for (int r = 0; r < 3; r++) {
            x.capacity(r, 10);
            for (int i = 0; i < 10; i++) {
                x.need(r, i, 1);
            }
            due("ten at once, narrow()", x.narrow(), 1);
            due("THE USE", x.use(r, 6), 10);
            x.need(r, 9, 2);
            due("eleven at once, narrow()", x.narrow(), 0);
            due("the RULE", x.told(0), 3);
            x.need(r, 9, 1);
        }
    }

    private static void work() {
        ten("work", 3, 0, 27, false);
        x.capacity(2, 1);
        for (int i = 0; i < 10; i++) {
            x.need(2, i, 1);
        }
        due("30 in 30, narrow()", x.narrow(), 1);
        due("told(2)", x.told(2), 0);
        for (int i = 0; i < 10; i++) {
            x.fix(i, 1, 26);
        }
        due("30 in 29, narrow()", x.narrow(), 0);
        due("the RULE", x.told(0), 4);
    }

    private static void rows() {
        for (int k = 0; k < 2; k++) {
            ten("rows", 3, 0, 27, false);
            for (int i = 0; i < 10; i++) {
                x.row(k, i);
            }
            due("30 in 30, narrow()", x.narrow(), 1);
            due("told(2)", x.told(2), 0);
            for (int i = 0; i < 10; i++) {
                x.fix(i, 1, 26);
            }
            due("30 in 29, narrow()", x.narrow(), 0);
            due("the RULE", x.told(0), 6);
            x = new TimeResources();
            for (int i = 0; i < 10; i++) {
                x.interval(3, i == 9 ? 1 : 0, i == 9 ? 40 : 27, false);
                x.row(k, i);
            }
            // From 0 to 30 nine take 27, so the last one, that could end at 4, is not first.
            due("27 in 30 and one besides, narrow()", x.narrow(), 1);
            dueBounds(9, 3, 40, 1);
            due("told(2)", x.told(2), 1);
        }
    }

    private static void stores() {
        for (int k = 0; k < 2; k++) {
            ten("stores", 2, 5, 5, false);
            x.store(k, 0, 0, 10);
            for (int i = 0; i < 10; i++) {
                due("event " + i, x.event(k, i, i % 2 == 0, 1), i + 1);
            }
            due("one more", x.event(k, 0, false, 50), FULL);
            due("ten are added, narrow()", x.narrow(), 1);
            due("solve(10)", x.solve(10), 1);
            due("check()", x.check(), 0);
            x.store(k, 0, 0, 9);
            due("one too many, narrow()", x.narrow(), 0);
            due("the RULE", x.told(0), 8);
            due("check()", x.check(), 8);
        }
    }

    private static void options() {
        for (int m = 0; m < 10; m += 9) {
            ten("options", 2, 0, 20, true);
            int options = 0;
            for (int i = 0; i < 10; i++) {
                if (i != m) {
                    options++;
                    due("option " + i, x.option(m, i), options);
                    x.fix(i, 0, i);
                    x.fix(i, 1, 10 + i);
                }
            }
            int last = m == 9 ? 8 : 9;
            x.fix(m, 2, 0);
            due("narrow()", x.narrow(), 1);
            dueBounds(m, m == 9 ? 0 : 1, 10 + last, 1);
            dueBounds(last, last, 10 + last, 2);
            x.fix(m, 0, 10 + last);
            due("narrow()", x.narrow(), 1);
            due("present", x.count(4), 2);
            due("absent", x.count(5), 8);
            dueBounds(last, 10 + last, 10 + last, 1);
            due("solve(2)", x.solve(2), 1);
            due("plan", x.plan(last), 10 + last);
            due("check()", x.check(), 0);
        }
    }

    private static void openOnes() {
        ten("open ones", 2, 0, 0, true);
        for (int i = 0; i < 10; i++) {
            x.row(0, i);
            x.need(0, i, 1);
        }
        x.capacity(0, 1);
        due("narrow()", x.narrow(), 1);
        due("open", x.count(6), 10);
        x.fix(9, 2, 0);
        due("narrow()", x.narrow(), 1);
        due("absent", x.count(5), 9);
        due("solve(1)", x.solve(1), 1);
        due("plan(9)", x.plan(9), 0);
        due("plan(8)", x.plan(8), NONE);
    }

    private static void allTogether() {
        ten("all together", 3, 0, 40, false);
        for (int i = 0; i < 10; i++) {
            x.row(0, i);
            x.row(1, i);
            x.calendar(i, i % 2);
            x.kind(i, i % 4);
            x.event(0, i, false, 1);
            x.event(1, i, true, -1);
            for (int r = 0; r < 3; r++) {
                x.need(r, i, r + 1);
            }
        }
        for (int k = 0; k < 20; k++) {
            x.before(k % 9, k % 9 + 1, 0);
        }
        for (int k = 0; k < 6; k++) {
            x.pause(0, 50 + k, 60);
            x.pause(1, 50 + k, 60);
        }
        for (int r = 0; r < 3; r++) {
            x.capacity(r, r + 1);
        }
        x.store(0, 0, 0, 10);
        x.store(1, 0, -10, 0);
        due("narrow()", x.narrow(), 1);
        for (int i = 0; i < 10; i++) {
            dueBounds(i, 3 * i, 13 + 3 * i, 1);
        }
        due("solve(400)", x.solve(400), 1);
        // One at each of its least starts, then 13 that end too late for each.
        due("TRIES", x.count(1), 140);
        due("count(0)", x.count(0), 30);
        for (int i = 0; i < 10; i++) {
            due("plan(" + i + ")", x.plan(i), 3 * i);
        }
        due("check()", x.check(), 0);
        due("solve(9)", x.solve(9), TimeResources.CUT);
        due("solve(10)", x.solve(10), 2);
        x.change(1, 0, 1, 1);
        due("check()", x.check(), 5);
    }

    private static void lastIsAbsent() {
        ten("the last is absent", 1, 0, 0, true);
        for (int i = 0; i < 9; i++) {
            x.fix(i, 2, 0);
        }
        x.fix(9, 3, 0);
        due("solve(9)", x.solve(9), 1);
        due("TRIES", x.count(1), 9);
        due("plan(8)", x.plan(8), 0);
        due("plan(9)", x.plan(9), NONE);
        due("keep()", x.keep(), 1);
        due("back()", x.back(), 10);
    }
}
