import java.util.Random;

/**
 * "Absent ones count nowhere": of two objects one has absent intervals between the others, with needs,
 * rows, orders, events of their own; all that concerns the others must be answered alike.
 */
public final class AbsentOnes {
    private static final int RUNS = 4000;
    private static int wrong = 0;
    private static int failed = 0;
    private static int narrowed = 0;
    private static int planned = 0;

    private final Random random;
    private final int run;
    private final TimeResources plain = new TimeResources();
    private final TimeResources mixed = new TimeResources();
    /** The number that an interval of the plain object has in the mixed one. */
    private final int[] numbers = new int[10];
    private final int[] lengths = new int[10];
    private final int[] absent = new int[10];
    private int size;
    private int absentSize;

    private AbsentOnes(int run) {
        this.run = run;
        random = new Random(run);
    }

    public static void main(String[] args) {
        for (int run = 0; run < RUNS; run++) {
            AbsentOnes test = new AbsentOnes(run);
            test.tellIntervals();
            test.tellThings();
            test.tellThingsOfAbsentOnes();
            test.compare();
        }
        if (failed < RUNS / 10 || narrowed < RUNS / 10 || planned < RUNS / 10) {
            wrong++;
        }
        System.out.println(RUNS + " runs: " + failed + " fail, " + narrowed + " narrow something, " + planned
                + " have a plan; " + wrong + " answers are not as due");
        if (wrong != 0) {
            System.exit(1);
        }
    }

    private int any(int least, int most) {
        return least + random.nextInt(most - least + 1);
    }

    private void same(String what, int one, int other) {
        if (one != other) {
            wrong++;
            System.out.println("run " + run + ": " + what + " answered " + other + ", without absent ones " + one);
        }
    }

    private void tellIntervals() {
        for (int k = any(4, 8); k > 0; k--) {
            int length = any(0, 4);
            int from = any(0, 6);
            int to = from + any(0, 8);
            if (random.nextInt(3) == 0) {
                absent[absentSize] = mixed.interval(length, from, to, true);
                mixed.fix(absent[absentSize], 3, 0);
                absentSize++;
            } else {
                boolean optional = random.nextInt(4) == 0;
                lengths[size] = length;
                numbers[size] = mixed.interval(length, from, to, optional);
                plain.interval(length, from, to, optional);
                size++;
            }
        }
    }

    private void tellThings() {
        boolean[] uses = {random.nextBoolean(), random.nextBoolean(), random.nextBoolean(), random.nextBoolean()};
        for (int k = 0; k < 2; k++) {
            int c = any(1, 5);
            int from = any(0, 12);
            int to = from + any(1, 2);
            int level = any(0, 4);
            plain.capacity(k, c);
            mixed.capacity(k, c);
            plain.pause(k, from, to);
            mixed.pause(k, from, to);
            plain.store(k, level, 0, 5);
            mixed.store(k, level, 0, 5);
            plain.change(k, 0, 1, c % 3);
            mixed.change(k, 0, 1, c % 3);
        }
        for (int i = 0; i < size; i++) {
            tellOf(i, uses);
        }
        if (size > 1 && random.nextInt(3) == 0) {
            int a = any(0, size - 1);
            int b = any(0, size - 1);
            int lag = any(-3, 3);
            plain.before(a, b, lag);
            mixed.before(numbers[a], numbers[b], lag);
            same("option", plain.option(a, b), mixed.option(numbers[a], numbers[b]));
        }
    }

    private void tellOf(int i, boolean[] uses) {
        int k = any(0, 1);
        int v = any(1, 3);
        boolean atEnd = random.nextBoolean();
        plain.kind(i, k);
        mixed.kind(numbers[i], k);
        if (uses[0]) {
            plain.need(k, i, v);
            mixed.need(k, numbers[i], v);
        }
        if (uses[1]) {
            plain.row(k, i);
            mixed.row(k, numbers[i]);
        }
        if (uses[2]) {
            plain.event(k, i, atEnd, v - 4);
            mixed.event(k, numbers[i], atEnd, v - 4);
            plain.event(1 - k, i, atEnd, v);
            mixed.event(1 - k, numbers[i], atEnd, v);
        }
        if (uses[3]) {
            plain.calendar(i, k);
            mixed.calendar(numbers[i], k);
        }
    }

    private void tellThingsOfAbsentOnes() {
        for (int k = 0; k < absentSize; k++) {
            int i = absent[k];
            for (int r = 0; r < 2; r++) {
                mixed.need(r, i, any(0, 20));
                mixed.row(r, i);
                mixed.event(r, i, random.nextBoolean(), either(-50, 50));
            }
            mixed.calendar(i, any(0, 1));
            mixed.kind(i, any(0, 3));
            for (int j = 0; j < size; j++) {
                mixed.before(i, numbers[j], any(-30, 30));
                mixed.before(numbers[j], i, any(-30, 30));
                // One that has a choice of its own keeps it; an absent one more is no matter to it.
                if (plain.about(j, 7) > 0 && mixed.about(i, 3) == lengths[j]) {
                    mixed.option(numbers[j], i);
                }
            }
        }
    }

    private int either(int one, int other) {
        return random.nextBoolean() ? one : other;
    }

    private void compareBounds(String when) {
        for (int i = 0; i < size; i++) {
            for (int what = 0; what <= 2; what++) {
                same(when + ", about(" + i + ", " + what + ")", plain.about(i, what), mixed.about(numbers[i], what));
            }
        }
        for (int k = 0; k < absentSize; k++) {
            same(when + ", PRESENCE of an absent one", 0, mixed.about(absent[k], 2));
        }
    }

    private void compare() {
        int tries = any(1, 400);
        int answer = plain.solve(tries);
        same("solve(" + tries + ")", answer, mixed.solve(tries));
        same("count(0)", plain.count(0), mixed.count(0));
        same("count(1)", plain.count(1), mixed.count(1));
        same("check()", plain.check(), mixed.check());
        for (int i = 0; i < size; i++) {
            same("plan(" + i + ")", plain.plan(i), mixed.plan(numbers[i]));
        }
        same("narrow()", plain.narrow(), mixed.narrow());
        for (int what = 0; what <= 2; what++) {
            same("told(" + what + ")", plain.told(what), mixed.told(what));
        }
        compareBounds("narrow()");
        for (int t = 0; t <= 20; t++) {
            same("use(0, " + t + ")", plain.use(0, t), mixed.use(0, t));
        }
        failed += plain.told(0) > 0 ? 1 : 0;
        narrowed += plain.told(2) > 0 ? 1 : 0;
        planned += answer > 0 ? 1 : 0;
    }
}
