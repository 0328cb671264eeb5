/** Each promise of the document by itself: ordinary calls, its edges, wrong inputs. */
public final class Promises {
    private static final int BAD = TimeResources.BAD, NONE = TimeResources.NONE;
    private static final int FULL = TimeResources.FULL, CUT = TimeResources.CUT;
    private static final int[] FAR = {Integer.MIN_VALUE, Integer.MAX_VALUE};
    private static int wrong = 0;

    private static void due(int promise, String call, int got, int want) {
        if (got != want) {
            wrong++;
            System.out.println("promise " + promise + ": " + call + " answered " + got + ", due is " + want);
        }
    }

    public static void main(String[] args) {
        newObject();
        interval();
        capacity();
        need();
        pause();
        calendar();
        row();
        kind();
        change();
        triangle();
        before();
        store();
        event();
        option();
        fix();
        fixOfAbsent();
        narrow();
        told();
        about();
        keepAndBack();
        solve();
        solveOrder();
        solveCut();
        solveOptional();
        plan();
        count();
        use();
        check();
        checkEdges();
        System.out.println(wrong == 0 ? "all promises are kept" : wrong + " answers are not as due");
        if (wrong != 0) {
            System.exit(1);
        }
    }

    /** Some present intervals of LENGTH 2 that may start from 0 to 10. */
    private static TimeResources with(int howMany) {
        TimeResources x = new TimeResources();
        for (int i = 0; i < howMany; i++) {
            x.interval(2, 0, 10, false);
        }
        return x;
    }

    private static void newObject() {
        TimeResources x = new TimeResources();
        due(1, "BAD", TimeResources.BAD, -1);
        due(1, "NONE", TimeResources.NONE, -2);
        due(1, "FULL", TimeResources.FULL, -3);
        due(1, "CUT", TimeResources.CUT, -4);
        due(1, "count(0)", x.count(0), NONE);
        for (int what = 1; what <= 6; what++) {
            due(1, "count(" + what + ")", x.count(what), 0);
        }
        for (int what = 0; what <= 2; what++) {
            due(1, "told(" + what + ")", x.told(what), 0);
        }
        due(1, "about(0, 0)", x.about(0, 0), BAD);
        due(1, "plan(0)", x.plan(0), BAD);
        due(1, "check()", x.check(), NONE);
        due(1, "back()", x.back(), NONE);
        due(1, "triangle(0)", x.triangle(0), 1);
        due(1, "use(2, 130)", x.use(2, 130), 0);
        due(1, "fix(0, 2, 0)", x.fix(0, 2, 0), BAD);
        due(1, "narrow()", x.narrow(), 1);
        TimeResources other = with(1);
        due(1, "count(2) beside another object", x.count(2), 0);
        due(1, "count(2) of another object", other.count(2), 1);
    }

    private static void interval() {
        TimeResources x = new TimeResources();
        due(2, "length -1", x.interval(-1, 0, 0, false), BAD);
        due(2, "length 31", x.interval(31, 0, 0, false), BAD);
        due(2, "from -1", x.interval(0, -1, 0, false), BAD);
        due(2, "to 101", x.interval(0, 0, 101, false), BAD);
        due(2, "from 101", x.interval(0, 101, 101, false), BAD);
        due(2, "to below from", x.interval(0, 5, 4, true), BAD);
        for (int far : FAR) {
            due(2, "length " + far, x.interval(far, 0, 0, false), BAD);
            due(2, "from " + far, x.interval(0, far, 0, false), BAD);
            due(2, "to " + far, x.interval(0, 0, far, false), BAD);
        }
        due(2, "no wrong one counts", x.count(2), 0);
        due(2, "the least one", x.interval(0, 0, 0, false), 0);
        due(2, "the greatest one", x.interval(30, 100, 100, true), 1);
        due(2, "e", x.about(1, 0), 100);
        due(2, "l", x.about(1, 1), 100);
        due(2, "open", x.about(1, 2), 2);
        due(2, "present", x.about(0, 2), 1);
        due(2, "length", x.about(1, 3), 30);
        for (int i = 2; i < 10; i++) {
            due(2, "interval " + i, x.interval(i, i, 2 * i, false), i);
        }
        due(2, "an eleventh", x.interval(1, 0, 0, false), FULL);
        due(2, "a wrong eleventh", x.interval(31, 0, 0, false), BAD);
        due(2, "count(2)", x.count(2), 10);
    }

    private static void capacity() {
        TimeResources x = new TimeResources();
        due(3, "capacity(0, 20)", x.capacity(0, 20), 0);
        due(3, "capacity(0, 7)", x.capacity(0, 7), 20);
        due(3, "capacity(0, 0)", x.capacity(0, 0), 7);
        due(3, "capacity(2, 3)", x.capacity(2, 3), 0);
        due(3, "capacity(3, 3)", x.capacity(3, 3), BAD);
        due(3, "capacity(-1, 3)", x.capacity(-1, 3), BAD);
        due(3, "capacity(2, 21)", x.capacity(2, 21), BAD);
        due(3, "capacity(2, -1)", x.capacity(2, -1), BAD);
        for (int far : FAR) {
            due(3, "capacity(" + far + ", 0)", x.capacity(far, 0), BAD);
            due(3, "capacity(0, " + far + ")", x.capacity(0, far), BAD);
        }
        due(3, "capacity(2, 0)", x.capacity(2, 0), 3);
        due(3, "capacity(1, 0)", x.capacity(1, 0), 0);
    }

    private static void need() {
        TimeResources x = with(2);
        due(4, "need(0, 0, 20)", x.need(0, 0, 20), 0);
        due(4, "need(0, 0, 0)", x.need(0, 0, 0), 20);
        due(4, "need(2, 1, 5)", x.need(2, 1, 5), 0);
        due(4, "need(2, 0, 1)", x.need(2, 0, 1), 0);
        due(4, "need(2, 1, 6)", x.need(2, 1, 6), 5);
        due(4, "need(3, 0, 1)", x.need(3, 0, 1), BAD);
        due(4, "need(-1, 0, 1)", x.need(-1, 0, 1), BAD);
        due(4, "need(0, 2, 1)", x.need(0, 2, 1), BAD);
        due(4, "need(0, -1, 1)", x.need(0, -1, 1), BAD);
        due(4, "need(0, 0, 21)", x.need(0, 0, 21), BAD);
        due(4, "need(0, 0, -1)", x.need(0, 0, -1), BAD);
        for (int far : FAR) {
            due(4, "resource " + far, x.need(far, 0, 0), BAD);
            due(4, "interval " + far, x.need(0, far, 0), BAD);
            due(4, "need " + far, x.need(0, 0, far), BAD);
        }
        due(4, "a new interval needs nothing", x.need(2, x.interval(1, 0, 0, false), 1), 0);
    }

    private static void pause() {
        TimeResources x = new TimeResources();
        due(5, "pause(0, 0, 1)", x.pause(0, 0, 1), 1);
        due(5, "pause(0, 130, 131)", x.pause(0, 130, 131), 2);
        due(5, "pause(0, 0, 1), the same", x.pause(0, 0, 1), 3);
        due(5, "pause(1, 5, 131)", x.pause(1, 5, 131), 1);
        due(5, "pause(0, 131, 131)", x.pause(0, 131, 131), BAD);
        due(5, "pause(0, 5, 5)", x.pause(0, 5, 5), BAD);
        due(5, "pause(0, 5, 4)", x.pause(0, 5, 4), BAD);
        due(5, "pause(0, -1, 4)", x.pause(0, -1, 4), BAD);
        due(5, "pause(0, 5, 132)", x.pause(0, 5, 132), BAD);
        due(5, "pause(2, 5, 6)", x.pause(2, 5, 6), BAD);
        due(5, "pause(-1, 5, 6)", x.pause(-1, 5, 6), BAD);
        for (int far : FAR) {
            due(5, "calendar " + far, x.pause(far, 0, 1), BAD);
            due(5, "from " + far, x.pause(0, far, 1), BAD);
            due(5, "to " + far, x.pause(0, 0, far), BAD);
        }
        due(5, "a fourth", x.pause(0, 7, 9), 4);
        due(5, "a fifth", x.pause(0, 7, 9), 5);
        due(5, "a sixth", x.pause(0, 7, 9), 6);
        due(5, "a seventh", x.pause(0, 7, 9), FULL);
        due(5, "a wrong seventh", x.pause(0, 9, 9), BAD);
        due(5, "the other calendar", x.pause(1, 7, 9), 2);
    }

    private static void calendar() {
        TimeResources x = with(1);
        due(6, "calendar(0, -1)", x.calendar(0, -1), NONE);
        due(6, "calendar(0, 0)", x.calendar(0, 0), NONE);
        due(6, "calendar(0, 1)", x.calendar(0, 1), 0);
        due(6, "calendar(0, 2)", x.calendar(0, 2), BAD);
        due(6, "calendar(0, -2)", x.calendar(0, -2), BAD);
        due(6, "calendar(1, 0)", x.calendar(1, 0), BAD);
        due(6, "calendar(-1, 0)", x.calendar(-1, 0), BAD);
        for (int far : FAR) {
            due(6, "interval " + far, x.calendar(far, 0), BAD);
            due(6, "calendar " + far, x.calendar(0, far), BAD);
        }
        due(6, "calendar(0, -1)", x.calendar(0, -1), 1);
        due(6, "about(0, 5)", x.about(0, 5), NONE);
    }

    private static void row() {
        TimeResources x = with(2);
        due(7, "row(0, 0)", x.row(0, 0), 1);
        due(7, "row(0, 0) again", x.row(0, 0), 0);
        due(7, "row(1, 0)", x.row(1, 0), 1);
        due(7, "row(0, 1)", x.row(0, 1), 1);
        due(7, "row(1, 0) again", x.row(1, 0), 0);
        due(7, "row(2, 0)", x.row(2, 0), BAD);
        due(7, "row(-1, 0)", x.row(-1, 0), BAD);
        due(7, "row(0, 2)", x.row(0, 2), BAD);
        due(7, "row(0, -1)", x.row(0, -1), BAD);
        for (int far : FAR) {
            due(7, "row " + far, x.row(far, 0), BAD);
            due(7, "interval " + far, x.row(0, far), BAD);
        }
    }

    private static void kind() {
        TimeResources x = with(1);
        due(8, "kind(0, 3)", x.kind(0, 3), 0);
        due(8, "kind(0, 0)", x.kind(0, 0), 3);
        due(8, "kind(0, 2)", x.kind(0, 2), 0);
        due(8, "kind(0, 4)", x.kind(0, 4), BAD);
        due(8, "kind(0, -1)", x.kind(0, -1), BAD);
        due(8, "kind(1, 0)", x.kind(1, 0), BAD);
        due(8, "kind(-1, 0)", x.kind(-1, 0), BAD);
        for (int far : FAR) {
            due(8, "interval " + far, x.kind(far, 0), BAD);
            due(8, "kind " + far, x.kind(0, far), BAD);
        }
        due(8, "about(0, 4)", x.about(0, 4), 2);
    }

    private static void change() {
        TimeResources x = new TimeResources();
        due(9, "change(0, 0, 3, 20)", x.change(0, 0, 3, 20), 0);
        due(9, "change(0, 3, 0, 1)", x.change(0, 3, 0, 1), 0);
        due(9, "change(0, 0, 3, 0)", x.change(0, 0, 3, 0), 20);
        due(9, "change(1, 0, 3, 4)", x.change(1, 0, 3, 4), 0);
        due(9, "change(1, 2, 2, 4)", x.change(1, 2, 2, 4), 0);
        due(9, "change(2, 0, 0, 0)", x.change(2, 0, 0, 0), BAD);
        due(9, "change(-1, 0, 0, 0)", x.change(-1, 0, 0, 0), BAD);
        due(9, "change(0, 4, 0, 0)", x.change(0, 4, 0, 0), BAD);
        due(9, "change(0, -1, 0, 0)", x.change(0, -1, 0, 0), BAD);
        due(9, "change(0, 0, 4, 0)", x.change(0, 0, 4, 0), BAD);
        due(9, "change(0, 0, -1, 0)", x.change(0, 0, -1, 0), BAD);
        due(9, "change(0, 0, 0, 21)", x.change(0, 0, 0, 21), BAD);
        due(9, "change(0, 0, 0, -1)", x.change(0, 0, 0, -1), BAD);
        for (int far : FAR) {
            due(9, "row " + far, x.change(far, 0, 0, 0), BAD);
            due(9, "a " + far, x.change(0, far, 0, 0), BAD);
            due(9, "b " + far, x.change(0, 0, far, 0), BAD);
            due(9, "v " + far, x.change(0, 0, 0, far), BAD);
        }
        due(9, "change(0, 3, 0, 0)", x.change(0, 3, 0, 0), 1);
        due(9, "change(1, 2, 2, 0)", x.change(1, 2, 2, 0), 4);
    }

    private static void triangle() {
        TimeResources x = new TimeResources();
        for (int a = 0; a < 4; a++) {
            for (int b = 0; b < 4; b++) {
                x.change(0, a, b, a == b ? 0 : 5);
            }
        }
        due(10, "all changes alike", x.triangle(0), 1);
        x.change(0, 1, 2, 10);
        due(10, "one is just the sum", x.triangle(0), 1);
        x.change(0, 1, 2, 11);
        due(10, "one is above the sum", x.triangle(0), 0);
        due(10, "the other row", x.triangle(1), 1);
        x.change(1, 3, 3, 1);
        due(10, "from a kind to itself, by another", x.triangle(1), 0);
        for (int bad : new int[] {-1, 2, Integer.MIN_VALUE, Integer.MAX_VALUE}) {
            due(10, "triangle(" + bad + ")", x.triangle(bad), BAD);
        }
    }

    private static void before() {
        TimeResources x = with(2);
        due(11, "before(0, 0, 0)", x.before(0, 0, 0), BAD);
        due(11, "before(0, 2, 0)", x.before(0, 2, 0), BAD);
        due(11, "before(-1, 0, 0)", x.before(-1, 0, 0), BAD);
        due(11, "before(0, 1, 31)", x.before(0, 1, 31), BAD);
        due(11, "before(0, 1, -31)", x.before(0, 1, -31), BAD);
        for (int far : FAR) {
            due(11, "a " + far, x.before(far, 0, 0), BAD);
            due(11, "b " + far, x.before(0, far, 0), BAD);
            due(11, "lag " + far, x.before(0, 1, far), BAD);
        }
        due(11, "before(0, 1, 30)", x.before(0, 1, 30), 1);
        due(11, "before(0, 1, -30)", x.before(0, 1, -30), 2);
        for (int k = 3; k <= 20; k++) {
            due(11, "order " + k, x.before(1, 0, -30), k);
        }
        due(11, "one too many", x.before(0, 1, 0), FULL);
        due(11, "a wrong one too many", x.before(0, 0, 0), BAD);
        due(11, "count(3)", x.count(3), 20);
    }

    private static void store() {
        TimeResources x = with(1);
        due(12, "store(0, 100, 100, 100)", x.store(0, 100, 100, 100), 1);
        due(12, "store(1, -100, -100, -100)", x.store(1, -100, -100, -100), 1);
        due(12, "the beginning beside the levels", x.store(1, 50, 0, 9), 1);
        due(12, "the least above the greatest", x.store(1, 0, 1, 0), BAD);
        due(12, "store(2, 0, 0, 0)", x.store(2, 0, 0, 0), BAD);
        due(12, "store(-1, 0, 0, 0)", x.store(-1, 0, 0, 0), BAD);
        due(12, "begin 101", x.store(0, 101, 0, 1), BAD);
        due(12, "begin -101", x.store(0, -101, 0, 1), BAD);
        due(12, "least -101", x.store(0, 0, -101, 1), BAD);
        due(12, "most 101", x.store(0, 0, 0, 101), BAD);
        for (int far : FAR) {
            due(12, "store " + far, x.store(far, 0, 0, 0), BAD);
            due(12, "begin " + far, x.store(0, far, 0, 0), BAD);
            due(12, "least " + far, x.store(0, 0, far, 0), BAD);
            due(12, "most " + far, x.store(0, 0, 0, far), BAD);
        }
        due(12, "without an event it breaks nothing", x.narrow(), 1);
        x.event(1, 0, false, 1);
        due(12, "with one it does", x.narrow(), 0);
        TimeResources fresh = with(3);
        fresh.event(0, 0, false, 50);
        fresh.event(0, 1, false, 50);
        due(12, "100 is the greatest at first", fresh.narrow(), 1);
        fresh.event(0, 2, false, 1);
        due(12, "101 is above it", fresh.narrow(), 0);
        TimeResources low = with(3);
        low.event(1, 0, true, -50);
        low.event(1, 1, true, -50);
        due(12, "-100 is the least at first", low.narrow(), 1);
        low.event(1, 2, true, -1);
        due(12, "-101 is below it", low.narrow(), 0);
    }

    private static void event() {
        TimeResources x = with(1);
        due(13, "event(0, 0, false, 50)", x.event(0, 0, false, 50), 1);
        due(13, "event(0, 0, true, -50)", x.event(0, 0, true, -50), 2);
        due(13, "event(1, 0, true, 1)", x.event(1, 0, true, 1), 1);
        due(13, "event(0, 0, true, 0)", x.event(0, 0, true, 0), BAD);
        due(13, "event(0, 0, true, 51)", x.event(0, 0, true, 51), BAD);
        due(13, "event(0, 0, true, -51)", x.event(0, 0, true, -51), BAD);
        due(13, "event(0, 1, true, 1)", x.event(0, 1, true, 1), BAD);
        due(13, "event(0, -1, true, 1)", x.event(0, -1, true, 1), BAD);
        due(13, "event(2, 0, true, 1)", x.event(2, 0, true, 1), BAD);
        due(13, "event(-1, 0, true, 1)", x.event(-1, 0, true, 1), BAD);
        for (int far : FAR) {
            due(13, "store " + far, x.event(far, 0, true, 1), BAD);
            due(13, "interval " + far, x.event(0, far, true, 1), BAD);
            due(13, "v " + far, x.event(0, 0, true, far), BAD);
        }
        for (int k = 3; k <= 10; k++) {
            due(13, "event " + k, x.event(0, 0, false, 1), k);
        }
        due(13, "one too many", x.event(0, 0, false, 1), FULL);
        due(13, "a wrong one too many", x.event(0, 0, false, 0), BAD);
        due(13, "the other store", x.event(1, 0, false, 1), 2);
    }

    private static void option() {
        TimeResources x = with(5);
        x.interval(3, 0, 10, true);
        due(14, "option(0, 0)", x.option(0, 0), BAD);
        due(14, "option(0, 5), another LENGTH", x.option(0, 5), BAD);
        due(14, "option(0, 6)", x.option(0, 6), BAD);
        due(14, "option(6, 0)", x.option(6, 0), BAD);
        due(14, "option(-1, 0)", x.option(-1, 0), BAD);
        due(14, "option(0, -1)", x.option(0, -1), BAD);
        for (int far : FAR) {
            due(14, "master " + far, x.option(far, 0), BAD);
            due(14, "option " + far, x.option(0, far), BAD);
        }
        due(14, "option(0, 1)", x.option(0, 1), 1);
        due(14, "option(0, 2)", x.option(0, 2), 2);
        due(14, "it is an option", x.option(0, 1), BAD);
        due(14, "it is another's option", x.option(3, 1), BAD);
        due(14, "the master is an option", x.option(1, 3), BAD);
        due(14, "the option is a master", x.option(3, 0), BAD);
        due(14, "a second master", x.option(4, 3), 1);
        due(14, "about(0, 7)", x.about(0, 7), 2);
        due(14, "about(1, 7)", x.about(1, 7), 0);
        due(14, "about(2, 6)", x.about(2, 6), 0);
        due(14, "about(0, 6)", x.about(0, 6), NONE);
    }

    private static void fix() {
        TimeResources x = with(1);
        x.interval(1, 3, 8, true);
        due(15, "at 0 or later", x.fix(0, 0, 0), 1);
        due(15, "at 4 or later", x.fix(0, 0, 4), 1);
        due(15, "at 2 or later changes nothing", x.fix(0, 0, 2), 1);
        due(15, "e", x.about(0, 0), 4);
        due(15, "at 11 or later", x.fix(0, 0, 11), 0);
        due(15, "at 3 or earlier", x.fix(0, 1, 3), 0);
        due(15, "at 100 or earlier", x.fix(0, 1, 100), 1);
        due(15, "l", x.about(0, 1), 10);
        due(15, "at 4 or earlier", x.fix(0, 1, 4), 1);
        due(15, "l", x.about(0, 1), 4);
        due(15, "e", x.about(0, 0), 4);
        due(15, "it is present", x.fix(0, 2, -7), 1);
        due(15, "it is absent", x.fix(0, 3, 0), 0);
        due(15, "PRESENCE", x.about(0, 2), 1);
        due(15, "an open one above its l", x.fix(1, 0, 9), 0);
        due(15, "an open one below its e", x.fix(1, 1, 2), 0);
        due(15, "e", x.about(1, 0), 3);
        due(15, "l", x.about(1, 1), 8);
        due(15, "it stays open", x.about(1, 2), 2);
        due(15, "an open one is present", x.fix(1, 2, Integer.MAX_VALUE), 1);
        due(15, "PRESENCE", x.about(1, 2), 1);
        due(15, "v -1", x.fix(0, 0, -1), BAD);
        due(15, "v 101", x.fix(0, 0, 101), BAD);
        due(15, "v -1", x.fix(0, 1, -1), BAD);
        due(15, "v 101", x.fix(0, 1, 101), BAD);
        due(15, "what -1", x.fix(0, -1, 0), BAD);
        due(15, "what 4", x.fix(0, 4, 0), BAD);
        due(15, "interval 2", x.fix(2, 0, 0), BAD);
        due(15, "interval -1", x.fix(-1, 3, 0), BAD);
        for (int far : FAR) {
            due(15, "interval " + far, x.fix(far, 0, 0), BAD);
            due(15, "what " + far, x.fix(0, far, 0), BAD);
            due(15, "v " + far, x.fix(0, 1, far), BAD);
        }
    }

    private static void fixOfAbsent() {
        TimeResources x = new TimeResources();
        x.interval(1, 3, 8, true);
        due(15, "an open one is absent", x.fix(0, 3, Integer.MIN_VALUE), 1);
        due(15, "PRESENCE", x.about(0, 2), 0);
        due(15, "an absent one is absent", x.fix(0, 3, 0), 1);
        due(15, "an absent one at 4 or later", x.fix(0, 0, 4), 0);
        due(15, "an absent one at 3 or later", x.fix(0, 0, 3), 0);
        due(15, "an absent one at 7 or earlier", x.fix(0, 1, 7), 0);
        due(15, "an absent one is present", x.fix(0, 2, 0), 0);
        due(15, "v 101 of an absent one", x.fix(0, 0, 101), BAD);
        due(15, "e", x.about(0, 0), 3);
        due(15, "l", x.about(0, 1), 8);
        due(15, "PRESENCE", x.about(0, 2), 0);
    }

    private static void narrow() {
        TimeResources x = with(3);
        x.before(1, 2, 3);
        x.before(0, 1, 1);
        due(16, "narrow()", x.narrow(), 1);
        due(16, "e of 1", x.about(1, 0), 3);
        due(16, "e of 2", x.about(2, 0), 8);
        due(16, "l of 1", x.about(1, 1), 5);
        due(16, "l of 0", x.about(0, 1), 2);
        due(16, "narrow() again", x.narrow(), 1);
        due(16, "it changed nothing", x.told(2), 0);
        x.before(0, 2, 9);
        x.interval(2, 0, 40, false);
        x.before(2, 3, 0);
        due(16, "narrow() that fails", x.narrow(), 0);
        due(16, "e of 2 is as before", x.about(2, 0), 8);
        due(16, "l of 0 is as before", x.about(0, 1), 2);
        due(16, "e of 3 is as before", x.about(3, 0), 0);
    }

    private static void told() {
        TimeResources x = with(2);
        x.before(0, 1, 4);
        x.narrow();
        due(17, "no RULE failed", x.told(0), 0);
        due(17, "ROUNDS", x.told(1), 2);
        due(17, "an e and an l are others", x.told(2), 2);
        x.fix(0, 0, 3);
        x.solve(9);
        due(17, "fix() and solve() tell nothing: ROUNDS", x.told(1), 2);
        due(17, "fix() and solve() tell nothing: others", x.told(2), 2);
        x.narrow();
        due(17, "one e is another", x.told(2), 1);
        x.narrow();
        due(17, "the one ROUND that changed nothing", x.told(1), 1);
        due(17, "nothing is another", x.told(2), 0);
        x.before(1, 0, 0);
        x.narrow();
        due(17, "the RULE that failed", x.told(0), 1);
        due(17, "ROUNDS with the one that failed", x.told(1), 1);
        due(17, "others with FAIL", x.told(2), 0);
        TimeResources y = new TimeResources();
        y.interval(2, 5, 9, false);
        y.interval(3, 0, 4, true);
        y.before(0, 1, 0);
        y.narrow();
        due(17, "one PRESENCE is another", y.told(2), 1);
        due(17, "ROUNDS", y.told(1), 2);
        for (int bad : new int[] {-1, 3, Integer.MIN_VALUE, Integer.MAX_VALUE}) {
            due(17, "told(" + bad + ")", x.told(bad), BAD);
        }
    }

    private static void about() {
        TimeResources x = new TimeResources();
        x.interval(4, 1, 9, true);
        x.interval(4, 2, 8, false);
        x.kind(0, 3);
        x.calendar(0, 1);
        x.option(1, 0);
        int[] wants = {1, 9, 2, 4, 3, 1, 1, 0};
        int[] others = {2, 8, 1, 4, 0, NONE, NONE, 1};
        for (int what = 0; what < 8; what++) {
            due(18, "about(0, " + what + ")", x.about(0, what), wants[what]);
            due(18, "about(1, " + what + ")", x.about(1, what), others[what]);
        }
        for (int bad : new int[] {-1, 8, Integer.MIN_VALUE, Integer.MAX_VALUE}) {
            due(18, "about(0, " + bad + ")", x.about(0, bad), BAD);
        }
        for (int bad : new int[] {-1, 2, 10, Integer.MIN_VALUE, Integer.MAX_VALUE}) {
            due(18, "about(" + bad + ", 0)", x.about(bad, 0), BAD);
        }
        x.fix(0, 3, 0);
        due(18, "an absent one's e", x.about(0, 0), 1);
        due(18, "an absent one's PRESENCE", x.about(0, 2), 0);
    }

    private static void keepAndBack() {
        TimeResources x = new TimeResources();
        due(20, "back() of nothing", x.back(), NONE);
        due(19, "keep() without an interval", x.keep(), 1);
        x.interval(1, 0, 9, true);
        due(20, "back() to no interval", x.back(), 0);
        due(20, "the interval stays", x.about(0, 1), 9);
        due(19, "keep()", x.keep(), 1);
        x.interval(1, 0, 9, false);
        x.fix(0, 0, 4);
        x.fix(0, 1, 5);
        x.fix(0, 2, 0);
        x.fix(1, 0, 7);
        x.kind(0, 2);
        due(20, "back()", x.back(), 1);
        due(20, "e", x.about(0, 0), 0);
        due(20, "l", x.about(0, 1), 9);
        due(20, "PRESENCE", x.about(0, 2), 2);
        due(20, "a later one is as it is", x.about(1, 0), 7);
        due(20, "the kind is not kept", x.about(0, 4), 2);
        due(20, "no interval is lost", x.count(2), 2);
        x.fix(0, 3, 0);
        due(19, "keep() instead", x.keep(), 1);
        due(20, "back() to the latter", x.back(), 2);
        due(20, "PRESENCE", x.about(0, 2), 0);
        x.fix(1, 0, 8);
        due(20, "back() a second time", x.back(), 2);
        due(20, "e of 1", x.about(1, 0), 7);
    }

    private static void solve() {
        for (int bad : new int[] {0, -1, 401, Integer.MIN_VALUE, Integer.MAX_VALUE}) {
            due(21, "solve(" + bad + ")", with(1).solve(bad), BAD);
        }
        TimeResources x = with(2);
        x.row(0, 0);
        x.row(0, 1);
        due(21, "solve(400)", x.solve(400), 1);
        due(21, "plan(0)", x.plan(0), 0);
        due(21, "plan(1)", x.plan(1), 2);
        due(21, "count(0)", x.count(0), 4);
        due(21, "e is as before", x.about(1, 0), 0);
        due(21, "l is as before", x.about(1, 1), 10);
        due(21, "solve(0)", x.solve(0), BAD);
        due(21, "a wrong call leaves the PLAN", x.plan(1), 2);
        x.before(0, 1, 30);
        due(21, "RULES fail at the beginning", x.solve(400), 0);
        due(21, "no TRY", x.count(1), 0);
        due(21, "no PLAN", x.plan(0), NONE);
        due(21, "no end", x.count(0), NONE);
        due(21, "e is as before", x.about(1, 0), 0);
        due(21, "solve() without an interval", new TimeResources().solve(1), 1);
    }

    private static void solveOrder() {
        TimeResources x = new TimeResources();
        x.interval(2, 0, 2, false);
        x.interval(6, 0, 0, false);
        x.interval(2, 0, 2, false);
        x.row(0, 0);
        x.row(0, 2);
        due(21, "solve(400)", x.solve(400), 1);
        due(21, "the first at its least start", x.plan(0), 0);
        due(21, "the last behind it", x.plan(2), 2);
        due(21, "count(0)", x.count(0), 6);
        x.before(2, 0, 0);
        due(21, "the other way round", x.solve(400), 1);
        due(21, "plan(0)", x.plan(0), 2);
        due(21, "plan(2)", x.plan(2), 0);
        due(21, "three TRIES to the PLAN, no start besides", x.count(1), 3);
    }

    private static void solveCut() {
        TimeResources x = with(2);
        due(21, "cut with none", x.solve(1), CUT);
        due(21, "TRIES", x.count(1), 1);
        due(21, "no PLAN", x.plan(0), NONE);
        due(21, "check()", x.check(), NONE);
        due(21, "cut behind the PLAN", x.solve(2), 2);
        due(21, "TRIES", x.count(1), 2);
        due(21, "plan(1)", x.plan(1), 0);
        due(21, "one TRY too few", x.solve(21), 2);
        due(21, "just as many TRIES as there are", x.solve(22), 1);
        due(21, "TRIES", x.count(1), 22);
        due(21, "one more", x.solve(23), 1);
        due(21, "TRIES", x.count(1), 22);
    }

    private static void solveOptional() {
        TimeResources x = new TimeResources();
        x.interval(0, 0, 0, true);
        due(21, "an open one without LENGTH", x.solve(400), 1);
        due(21, "it is present, which is tried first", x.plan(0), 0);
        due(21, "TRIES, the one as absent, too", x.count(1), 2);
        TimeResources y = new TimeResources();
        y.interval(3, 1, 2, true);
        due(21, "an open one", y.solve(400), 1);
        due(21, "it is left out, which ends first", y.plan(0), NONE);
        due(21, "count(0)", y.count(0), 0);
        due(21, "TRIES", y.count(1), 3);
        due(21, "cut ahead of the TRY as absent", y.solve(2), 2);
        due(21, "plan(0)", y.plan(0), 1);
        due(21, "count(0)", y.count(0), 4);
        due(21, "PRESENCE is as before", y.about(0, 2), 2);
        y.fix(0, 3, 0);
        due(21, "an absent one is not TRIED", y.solve(1), 1);
        due(21, "TRIES", y.count(1), 0);
    }

    private static void plan() {
        TimeResources x = with(1);
        due(22, "plan(0) ahead of solve()", x.plan(0), NONE);
        x.fix(0, 0, 6);
        x.solve(400);
        due(22, "plan(0)", x.plan(0), 6);
        x.interval(1, 0, 9, false);
        due(22, "plan(1), that came later", x.plan(1), NONE);
        x.fix(0, 0, 8);
        due(22, "plan(0) stays", x.plan(0), 6);
        for (int bad : new int[] {-1, 2, 9, 10, Integer.MIN_VALUE, Integer.MAX_VALUE}) {
            due(22, "plan(" + bad + ")", x.plan(bad), BAD);
        }
        x.solve(400);
        due(22, "plan(0) of the latest", x.plan(0), 8);
        due(22, "plan(1) of the latest", x.plan(1), 0);
    }

    private static void count() {
        TimeResources x = with(3);
        x.interval(1, 0, 3, true);
        x.interval(1, 0, 3, true);
        x.interval(1, 0, 3, true);
        x.fix(3, 3, 0);
        x.fix(4, 2, 0);
        x.before(0, 1, 0);
        x.before(1, 2, 0);
        due(23, "count(0) without a PLAN", x.count(0), NONE);
        due(23, "count(1) without a solve()", x.count(1), 0);
        due(23, "intervals", x.count(2), 6);
        due(23, "ORDERS", x.count(3), 2);
        due(23, "present", x.count(4), 4);
        due(23, "absent", x.count(5), 1);
        due(23, "open", x.count(6), 1);
        x.solve(5);
        due(23, "count(0)", x.count(0), 6);
        due(23, "count(1)", x.count(1), 5);
        due(23, "open ones as bounds are", x.count(6), 1);
        for (int bad : new int[] {-1, 7, Integer.MIN_VALUE, Integer.MAX_VALUE}) {
            due(23, "count(" + bad + ")", x.count(bad), BAD);
        }
    }

    private static void use() {
        TimeResources x = new TimeResources();
        x.interval(5, 2, 4, false);
        x.interval(5, 4, 4, true);
        x.interval(30, 100, 100, false);
        x.need(1, 0, 3);
        x.need(1, 1, 4);
        x.need(1, 2, 9);
        due(24, "ahead of l", x.use(1, 3), 0);
        due(24, "from l on", x.use(1, 4), 3);
        due(24, "up to the earliest end", x.use(1, 6), 3);
        due(24, "behind it", x.use(1, 7), 0);
        x.fix(1, 2, 0);
        due(24, "with a second one", x.use(1, 6), 7);
        due(24, "its part alone", x.use(1, 8), 4);
        due(24, "the last time", x.use(1, 129), 9);
        due(24, "use(1, 130)", x.use(1, 130), 0);
        due(24, "use(1, 0)", x.use(1, 0), 0);
        due(24, "another resource", x.use(0, 6), 0);
        due(24, "use(1, 131)", x.use(1, 131), BAD);
        due(24, "use(1, -1)", x.use(1, -1), BAD);
        due(24, "use(3, 0)", x.use(3, 0), BAD);
        due(24, "use(-1, 0)", x.use(-1, 0), BAD);
        for (int far : FAR) {
            due(24, "use(" + far + ", 0)", x.use(far, 0), BAD);
            due(24, "use(0, " + far + ")", x.use(0, far), BAD);
        }
    }

    /** The PLAN of all at 0 is kept while things are told that it breaks, the last RULE first. */
    private static void check() {
        TimeResources x = with(4);
        due(25, "no PLAN", x.check(), NONE);
        x.solve(400);
        due(25, "nothing is told", x.check(), 0);
        x.option(2, 3);
        due(25, "master and option start alike", x.check(), 0);
        x.interval(2, 0, 9, true);
        x.option(2, 4);
        due(25, "a later option is absent", x.check(), 0);
        x.option(0, 1);
        due(25, "a second master", x.check(), 0);
        TimeResources y = with(4);
        y.solve(400);
        y.option(0, 1);
        y.option(0, 2);
        due(25, "two options are present", y.check(), 9);
        y.event(0, 0, false, 5);
        due(25, "an event that the store can take", y.check(), 9);
        y.store(0, 0, 0, 4);
        due(25, "one that it cannot", y.check(), 8);
        y.row(0, 2);
        y.row(0, 3);
        due(25, "two overlap in a row", y.check(), 5);
        y.need(0, 3, 1);
        due(25, "one needs what is not there", y.check(), 3);
        y.calendar(3, 1);
        y.pause(1, 2, 4);
        due(25, "a break behind the end", y.check(), 3);
        y.pause(1, 1, 2);
        due(25, "a break in it", y.check(), 2);
        y.before(0, 1, -2);
        due(25, "an order that holds", y.check(), 2);
        y.before(0, 1, -1);
        due(25, "one that does not", y.check(), 1);
    }

    private static void checkEdges() {
        TimeResources x = new TimeResources();
        x.interval(2, 0, 9, false);
        x.interval(2, 5, 9, false);
        x.solve(400);
        x.option(0, 1);
        due(25, "the option starts at another time", x.check(), 9);
        TimeResources y = new TimeResources();
        y.interval(2, 0, 9, false);
        y.solve(400);
        y.interval(2, 0, 9, false);
        due(25, "a later one breaks nothing by itself", y.check(), 0);
        y.option(0, 1);
        due(25, "a master whose option came later", y.check(), 9);
        TimeResources z = new TimeResources();
        z.interval(2, 0, 0, false);
        z.interval(2, 5, 5, false);
        z.row(1, 0);
        z.row(1, 1);
        z.kind(1, 1);
        z.solve(400);
        z.change(1, 0, 1, 3);
        due(25, "just time enough to change", z.check(), 0);
        z.change(1, 0, 1, 4);
        due(25, "too little", z.check(), 5);
        TimeResources w = new TimeResources();
        w.interval(0, 3, 3, false);
        w.interval(1, 5, 5, true);
        w.fix(1, 3, 0);
        w.calendar(0, 0);
        w.pause(0, 0, 131);
        w.calendar(1, 0);
        w.need(0, 0, 5);
        w.need(0, 1, 5);
        w.solve(400);
        due(25, "no LENGTH meets no break and needs nothing; nor does an absent one", w.check(), 0);
        w.store(0, 5, 6, 7);
        due(25, "a store without events", w.check(), 0);
        w.event(0, 1, false, 1);
        due(25, "its beginning is below the least", w.check(), 8);
        w.fix(0, 0, 3);
        w.store(0, 6, 6, 7);
        due(25, "its beginning is the least", w.check(), 0);
    }
}
