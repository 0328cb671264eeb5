import java.util.Random;

/**
 * What is refused (BAD, FULL, the 0 of fix()) changes nothing: of two objects one hears refused calls
 * between all others, and both must answer alike ever after.
 */
public final class RefusedCalls {
    private static final int RUNS = 400;
    private static final int STEPS = 60;
    private static final int KINDS = 18;
    private static final int[] FAR = {Integer.MIN_VALUE, -1, 10, Integer.MAX_VALUE};
    private static int wrong = 0;
    private static final int[] refused = new int[KINDS];

    private final Random random;
    private final TimeResources plain = new TimeResources();
    private final TimeResources bothered = new TimeResources();
    private final int run;

    private RefusedCalls(int run) {
        this.run = run;
        random = new Random(run);
    }

    public static void main(String[] args) {
        for (int run = 0; run < RUNS; run++) {
            RefusedCalls test = new RefusedCalls(run);
            for (int step = 0; step < STEPS; step++) {
                test.tellBoth();
                test.bother();
            }
            test.askBoth();
        }
        for (int which = 0; which < KINDS; which++) {
            if (refused[which] == 0) {
                wrong++;
                System.out.println("no call of kind " + which + " was refused");
            }
        }
        System.out.println(RUNS + " runs; "
                + (wrong == 0 ? "refused calls change nothing" : wrong + " answers are not as due"));
        if (wrong != 0) {
            System.exit(1);
        }
    }

    private int any(int least, int most) {
        return least + random.nextInt(most - least + 1);
    }

    private int anInterval() {
        return any(0, Math.max(plain.count(2) - 1, 0));
    }

    private void same(String what, int one, int other) {
        if (one != other) {
            wrong++;
            System.out.println("run " + run + ": " + what + " answered " + other + ", without refused calls " + one);
        }
    }

    private void tellBoth() {
        int i = anInterval();
        int j = anInterval();
        int v = any(0, 20);
        int k = any(0, 1);
        boolean flag = random.nextBoolean();
        switch (any(0, 16)) {
            case 0, 1 -> {
                int length = v % 5;
                same("interval", plain.interval(length, k, k + v, flag), bothered.interval(length, k, k + v, flag));
            }
            case 2 -> same("capacity", plain.capacity(k, v), bothered.capacity(k, v));
            case 3 -> same("need", plain.need(k, i, v % 4), bothered.need(k, i, v % 4));
            case 4 -> same("pause", plain.pause(k, 3 * v, 3 * v + 2), bothered.pause(k, 3 * v, 3 * v + 2));
            case 5 -> same("calendar", plain.calendar(i, k), bothered.calendar(i, k));
            case 6 -> same("row", plain.row(k, i), bothered.row(k, i));
            case 7 -> same("kind", plain.kind(i, v % 4), bothered.kind(i, v % 4));
            case 8 -> same("change", plain.change(k, v % 4, v / 6, v % 3), bothered.change(k, v % 4, v / 6, v % 3));
            case 9 -> same("before", plain.before(i, j, v - 15), bothered.before(i, j, v - 15));
            case 10 -> same("store", plain.store(k, v, 0, 40), bothered.store(k, v, 0, 40));
            case 11 -> same("event", plain.event(k, i, flag, v - 10), bothered.event(k, i, flag, v - 10));
            case 12 -> same("option", plain.option(i, j), bothered.option(i, j));
            case 13 -> same("fix", plain.fix(i, v % 4, v), bothered.fix(i, v % 4, v));
            case 14 -> same("narrow", plain.narrow(), bothered.narrow());
            case 15 -> same("solve", plain.solve(v + 1), bothered.solve(v + 1));
            default -> same("keep", plain.keep(), bothered.keep());
        }
    }

    /** One of two. */
    private int either(int one, int other) {
        return random.nextBoolean() ? one : other;
    }

    /** A call with one wrong argument, or one too many, or one that cannot be. */
    private void bother() {
        TimeResources x = bothered;
        int i = anInterval();
        int none = either(x.count(2), FAR[any(0, 3)]);
        int k = any(0, 1);
        int which = any(0, KINDS - 1);
        boolean canBe = true;
        int answer = TimeResources.BAD;
        switch (which) {
            case 0 -> answer = x.interval(either(-1, 31), 0, 100, true);
            case 1 -> answer = x.interval(3, 9, either(8, 101), true);
            case 2 -> {
                canBe = x.count(2) == 10;
                answer = canBe ? x.interval(3, 0, 100, true) : answer;
            }
            case 3 -> answer = x.capacity(k, either(-1, 21));
            case 4 -> answer = x.need(k, none, 5);
            case 5 -> answer = x.need(k, i, either(-1, 21));
            case 6 -> answer = x.pause(k, 7, either(7, 132));
            case 7 -> answer = x.calendar(either(i, none), either(-2, 2));
            case 8 -> answer = x.row(k, none);
            case 9 -> answer = x.kind(i, either(-1, 4));
            case 10 -> answer = x.change(k, any(0, 3), any(0, 3), either(-1, 21));
            case 11 -> answer = x.before(i, either(i, none), any(-30, 30));
            case 12 -> answer = x.store(k, 1, 51, either(50, 101));
            case 13 -> answer = x.event(k, i, true, either(0, 51));
            case 14 -> answer = x.option(i, either(i, none));
            case 15 -> answer = x.fix(i, k, either(-1, 101));
            case 16 -> answer = x.count(2) == 0 ? answer : refusedFix(x, i) - 1;
            default -> answer = x.solve(either(0, 401));
        }
        if (answer >= 0) {
            wrong++;
            System.out.println("run " + run + ": a call of kind " + which + " was not refused");
        }
        refused[which] += canBe ? 1 : 0;
    }

    /** How many of the calls that ask what cannot be were not refused. */
    private static int refusedFix(TimeResources x, int i) {
        int later = x.about(i, 1) + 1;
        int earlier = x.about(i, 0) - 1;
        int done = later > 100 ? 0 : x.fix(i, 0, later);
        done += earlier < 0 ? 0 : x.fix(i, 1, earlier);
        if (x.about(i, 2) == 1) {
            done += x.fix(i, 3, 0);
        } else if (x.about(i, 2) == 0) {
            done += x.fix(i, 2, 0) + x.fix(i, 0, x.about(i, 1)) + x.fix(i, 1, x.about(i, 0));
        }
        return done;
    }

    /** All that can be asked, and then all that answers what was. */
    private void askBoth() {
        for (int what = 0; what <= 6; what++) {
            same("count(" + what + ")", plain.count(what), bothered.count(what));
        }
        for (int what = 0; what <= 2; what++) {
            same("told(" + what + ")", plain.told(what), bothered.told(what));
        }
        same("check", plain.check(), bothered.check());
        askAboutIntervals();
        for (int k = 0; k < 2; k++) {
            same("triangle", plain.triangle(k), bothered.triangle(k));
            same("pause", plain.pause(k, 129, 130), bothered.pause(k, 129, 130));
            for (int cell = 0; cell < 16; cell++) {
                same("change", plain.change(k, cell / 4, cell % 4, 0), bothered.change(k, cell / 4, cell % 4, 0));
            }
        }
        same("solve", plain.solve(300), bothered.solve(300));
        same("count(0)", plain.count(0), bothered.count(0));
        same("count(1)", plain.count(1), bothered.count(1));
        same("check", plain.check(), bothered.check());
        askAboutIntervals();
        same("narrow", plain.narrow(), bothered.narrow());
        same("back", plain.back(), bothered.back());
        askAboutIntervals();
        for (int r = 0; r < 3; r++) {
            same("capacity", plain.capacity(r, 0), bothered.capacity(r, 0));
        }
    }

    private void askAboutIntervals() {
        for (int i = 0; i < plain.count(2); i++) {
            same("plan(" + i + ")", plain.plan(i), bothered.plan(i));
            for (int what = 0; what <= 7; what++) {
                same("about(" + i + ", " + what + ")", plain.about(i, what), bothered.about(i, what));
            }
            for (int r = 0; r < 3; r++) {
                int h = plain.need(r, i, 1);
                same("need", h, bothered.need(r, i, 1));
                plain.need(r, i, h);
                bothered.need(r, i, h);
            }
        }
    }
}
