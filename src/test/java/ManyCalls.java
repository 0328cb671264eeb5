import com.sun.management.ThreadMXBean;
import java.lang.management.ManagementFactory;

/** "An object is used for at most 512 calls": the 512th is answered as the first, and none fills the room. */
public final class ManyCalls {
    private static final int CALLS = 512;
    private static final long ROOM = 1_000_000;
    private static int wrong = 0;

    private static void due(String what, int got, int want) {
        if (got != want) {
            wrong++;
            System.out.println(what + " answered " + got + ", due is " + want);
        }
    }

    public static void main(String[] args) {
        cheapCalls();
        dearCalls();
        theRoom();
        laterCalls();
        System.out.println(wrong == 0 ? "all " + CALLS + " calls are as due" : wrong + " answers are not as due");
        if (wrong != 0) {
            System.exit(1);
        }
    }

    private static void cheapCalls() {
        TimeResources x = new TimeResources();
        x.interval(2, 0, 9, false);
        x.interval(2, 0, 9, true);
        for (int call = 3; call <= CALLS; call++) {
            String name = "call " + call + ", ";
            switch (call % 8) {
                case 0 -> due(name + "capacity", x.capacity(1, call / 8 % 21), (call - 1) / 8 % 21);
                case 1 -> due(name + "narrow", x.narrow(), 1);
                case 2 -> due(name + "keep", x.keep(), 1);
                case 3 -> due(name + "fix", x.fix(0, 0, 0), 1);
                case 4 -> due(name + "back", x.back(), call < 10 ? TimeResources.NONE : 2);
                case 5 -> due(name + "solve", x.solve(12), 2);
                case 6 -> due(name + "plan", x.plan(0), 0);
                default -> due(name + "interval", x.interval(2, 5, 4, false), TimeResources.BAD);
            }
        }
    }

    /** Ten intervals whose RULES all have work to do in each of 400 TRIES. */
    private static TimeResources dear() {
        TimeResources x = new TimeResources();
        for (int i = 0; i < 10; i++) {
            x.interval(3, 0, 100, i % 3 == 2);
        }
        for (int i = 0; i < 10; i++) {
            x.row(0, i);
            x.row(1, i);
            x.calendar(i, i % 2);
            x.need(0, i, 1);
            x.need(1, i, 2);
            x.event(0, i, false, i % 2 == 0 ? 1 : -1);
            x.before(0, i, i % 4);
        }
        x.pause(0, 8, 12);
        x.pause(1, 15, 18);
        x.capacity(0, 1);
        x.capacity(1, 2);
        x.store(0, 0, -1, 1);
        return x;
    }

    private static void dearCalls() {
        TimeResources x = dear();
        int answer = dear().solve(400);
        TimeResources other = dear();
        other.solve(400);
        int end = other.count(0);
        int tries = other.count(1);
        due("400 TRIES", tries, 400);
        due("found, but cut", answer, 2);
        // As many were made in dear() as 10 times 7, 10 more, and 5.
        for (int call = 86; call + 3 <= CALLS; call += 4) {
            due("call " + call + ", solve(400)", x.solve(400), answer);
            due("call " + (call + 1) + ", count(0)", x.count(0), end);
            due("call " + (call + 2) + ", count(1)", x.count(1), tries);
            due("call " + (call + 3) + ", check()", x.check(), 0);
        }
    }

    private static void theRoom() {
        if (!(ManagementFactory.getThreadMXBean() instanceof ThreadMXBean bean)
                || !bean.isThreadAllocatedMemorySupported()) {
            return;
        }
        long thread = Thread.currentThread().getId();
        TimeResources x = dear();
        x.solve(400);
        long before = bean.getThreadAllocatedBytes(thread);
        for (int call = 0; call < 300; call++) {
            x.solve(400);
            x.narrow();
            x.keep();
            x.back();
            x.check();
            x.use(1, 50);
        }
        long used = bean.getThreadAllocatedBytes(thread) - before;
        if (used > ROOM) {
            wrong++;
            System.out.println("calls took " + used + " bytes of room");
        }
    }

    /** What they answer is free, but they must not throw. */
    private static void laterCalls() {
        TimeResources x = dear();
        for (int call = 0; call < 2 * CALLS; call++) {
            x.interval(call % 31, 0, 9, true);
            x.before(call % 10, (call + 1) % 10, 0);
            x.event(call % 2, call % 10, true, 1);
            x.pause(call % 2, call % 130, 131);
            x.narrow();
        }
        x.solve(400);
    }
}
