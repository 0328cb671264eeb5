/**
 * Each sentence of promises 1 to 20 and 22 to 24 that names a boundary, in the document's order: just
 * inside it, just outside it, and that what is refused changes nothing.
 */
public final class SentencesOfPromises {
    private static final int BAD = TimeResources.BAD, NONE = TimeResources.NONE, FULL = TimeResources.FULL;
    private static final int LOWEST = Integer.MIN_VALUE, HIGHEST = Integer.MAX_VALUE;
    private static String sentence = "";
    private static int wrong = 0;

    private static void says(int promise, String words) {
        sentence = "promise " + promise + ", '" + words + "': ";
    }

    private static void due(String call, int got, int want) {
        if (got != want) {
            wrong++;
            System.out.println(sentence + call + " answered " + got + ", due is " + want);
        }
    }

    public static void main(String[] args) {
        constants();
        newObject();
        intervalRanges();
        intervalFull();
        capacity();
        need();
        needOfNoInterval();
        pauseRanges();
        pauseFull();
        calendar();
        row();
        kind();
        changeRanges();
        changeCells();
        triangle();
        triangleOfOneKind();
        beforeRanges();
        beforeFull();
        storeRanges();
        storeAtFirst();
        storeRefused();
        eventRanges();
        eventFull();
        eventAtStartOrEnd();
        optionRefused();
        optionCounts();
        fixLater();
        fixEarlier();
        fixPresent();
        fixAbsent();
        fixOfAnAbsentOne();
        fixRanges();
        narrowFails();
        toldRule();
        toldRounds();
        toldOthers();
        about();
        keep();
        back();
        planOfAnInterval();
        planOfALaterOne();
        countOfPlan();
        countOfThings();
        useRanges();
        useEdges();
        System.out.println(wrong == 0 ? "all sentences hold" : wrong + " answers are not as due");
        if (wrong != 0) {
            System.exit(1);
        }
    }

    /** Some present intervals of LENGTH 2 that may start from 0 to 10. */
    private static TimeResources with(int howMany) {
        TimeResources x = new TimeResources();
        for (int i = 0; i < howMany; i++) {
            x.interval(2, 0, 10, false);
        }
        return x;
    }

    private static void dueBounds(TimeResources x, int i, int first, int last, int presence) {
        due("about(" + i + ", 0)", x.about(i, 0), first);
        due("about(" + i + ", 1)", x.about(i, 1), last);
        due("about(" + i + ", 2)", x.about(i, 2), presence);
    }

    private static void constants() {
        says(1, "BAD = -1, NONE = -2, FULL = -3, CUT = -4");
        due("BAD", TimeResources.BAD, -1);
        due("NONE", TimeResources.NONE, -2);
        due("FULL", TimeResources.FULL, -3);
        due("CUT", TimeResources.CUT, -4);
    }

    private static void newObject() {
        says(1, "Nothing.");
        TimeResources x = new TimeResources();
        due("count(0)", x.count(0), NONE);
        for (int what = 1; what <= 6; what++) {
            due("count(" + what + ")", x.count(what), 0);
        }
        for (int what = 0; what <= 2; what++) {
            due("told(" + what + ")", x.told(what), 0);
        }
        due("about(0, 0)", x.about(0, 0), BAD);
        due("plan(0)", x.plan(0), BAD);
        due("back()", x.back(), NONE);
        due("check()", x.check(), NONE);
        due("triangle(0)", x.triangle(0), 1);
        due("triangle(1)", x.triangle(1), 1);
        for (int r = 0; r < 3; r++) {
            due("use(" + r + ", 0)", x.use(r, 0), 0);
            due("use(" + r + ", 130)", x.use(r, 130), 0);
        }
        due("narrow()", x.narrow(), 1);
        due("told(1)", x.told(1), 1);
        due("told(2)", x.told(2), 0);
        x.interval(1, 0, 0, false);
        x.capacity(0, 5);
        x.change(0, 0, 1, 5);
        TimeResources other = new TimeResources();
        due("count(2) of another object", other.count(2), 0);
        due("capacity(0, 0) of another object", other.capacity(0, 0), 0);
        due("change(0, 0, 1, 0) of another object", other.change(0, 0, 1, 0), 0);
    }

    private static void intervalRanges() {
        says(2, "its LENGTH");
        TimeResources x = new TimeResources();
        due("interval(-1, 0, 0, false)", x.interval(-1, 0, 0, false), BAD);
        due("interval(31, 0, 0, false)", x.interval(31, 0, 0, false), BAD);
        due("interval(0, 0, 0, false)", x.interval(0, 0, 0, false), 0);
        due("interval(30, 0, 0, false)", x.interval(30, 0, 0, false), 1);
        due("about(0, 3)", x.about(0, 3), 0);
        due("about(1, 3)", x.about(1, 3), 30);
        says(2, "EARLIEST");
        due("interval(1, -1, 5, false)", x.interval(1, -1, 5, false), BAD);
        due("interval(1, 101, 101, false)", x.interval(1, 101, 101, false), BAD);
        due("interval(1, 0, 5, false)", x.interval(1, 0, 5, false), 2);
        due("interval(1, 100, 100, false)", x.interval(1, 100, 100, false), 3);
        dueBounds(x, 2, 0, 5, 1);
        dueBounds(x, 3, 100, 100, 1);
        says(2, "LATEST start");
        due("interval(1, 5, 101, false)", x.interval(1, 5, 101, false), BAD);
        due("interval(1, 0, -1, false)", x.interval(1, 0, -1, false), BAD);
        due("interval(1, 5, 100, false)", x.interval(1, 5, 100, false), 4);
        dueBounds(x, 4, 5, 100, 1);
        says(2, "the latter not below");
        due("interval(1, 5, 4, false)", x.interval(1, 5, 4, false), BAD);
        due("interval(1, 100, 99, true)", x.interval(1, 100, 99, true), BAD);
        due("interval(1, 5, 5, false)", x.interval(1, 5, 5, false), 5);
        dueBounds(x, 5, 5, 5, 1);
        says(2, "optional (it is open) or not");
        due("interval(1, 5, 6, true)", x.interval(1, 5, 6, true), 6);
        dueBounds(x, 6, 5, 6, 2);
        says(2, "BAD: none such");
        for (int far : new int[] {LOWEST, HIGHEST}) {
            due("length " + far, x.interval(far, 0, 0, false), BAD);
            due("from " + far, x.interval(0, far, 0, false), BAD);
            due("to " + far, x.interval(0, 0, far, false), BAD);
            due("from and to " + far, x.interval(0, far, far, false), BAD);
        }
        due("no refused one is counted, count(2)", x.count(2), 7);
    }

    private static void intervalFull() {
        says(2, "its number");
        TimeResources x = new TimeResources();
        for (int i = 0; i < 10; i++) {
            due("interval " + i, x.interval(i, i, 2 * i, i % 2 == 1), i);
        }
        says(2, "FULL: 10");
        due("an eleventh", x.interval(1, 1, 1, true), FULL);
        due("a twelfth", x.interval(1, 1, 1, true), FULL);
        due("count(2)", x.count(2), 10);
        due("about(10, 0)", x.about(10, 0), BAD);
        for (int i = 0; i < 10; i++) {
            dueBounds(x, i, i, 2 * i, i % 2 == 1 ? 2 : 1);
            due("about(" + i + ", 3)", x.about(i, 3), i);
        }
    }

    private static void capacity() {
        TimeResources x = with(1);
        says(3, "0 at first");
        for (int r = 0; r < 3; r++) {
            due("capacity(" + r + ", " + (r + 1) + ")", x.capacity(r, r + 1), 0);
        }
        says(3, "what it was");
        for (int r = 0; r < 3; r++) {
            due("capacity(" + r + ", 9)", x.capacity(r, 9), r + 1);
        }
        says(3, "0 .. 20");
        due("capacity(1, 20)", x.capacity(1, 20), 9);
        due("capacity(1, 21)", x.capacity(1, 21), BAD);
        due("capacity(1, 0)", x.capacity(1, 0), 20);
        due("capacity(1, -1)", x.capacity(1, -1), BAD);
        due("capacity(1, LOWEST)", x.capacity(1, LOWEST), BAD);
        due("capacity(1, HIGHEST)", x.capacity(1, HIGHEST), BAD);
        due("a refused one changes nothing: capacity(1, 5)", x.capacity(1, 5), 0);
        says(3, "a resource 0 .. 2 .. BAD: none such");
        for (int r : new int[] {-1, 3, LOWEST, HIGHEST}) {
            due("capacity(" + r + ", 5)", x.capacity(r, 5), BAD);
        }
        due("capacity(0, 5)", x.capacity(0, 5), 9);
        due("capacity(2, 5)", x.capacity(2, 5), 9);
        says(3, "the capacity binds what is needed");
        x.need(2, 0, 5);
        due("as much as there is, narrow()", x.narrow(), 1);
        x.capacity(2, 4);
        due("one less, narrow()", x.narrow(), 0);
    }

    private static void need() {
        TimeResources x = with(2);
        says(4, "what it did");
        for (int r = 0; r < 3; r++) {
            due("need(" + r + ", 0, 3)", x.need(r, 0, 3), 0);
            due("need(" + r + ", 1, 4)", x.need(r, 1, 4), 0);
            due("need(" + r + ", 0, 5)", x.need(r, 0, 5), 3);
        }
        says(4, "0 .. 20");
        due("need(0, 0, 20)", x.need(0, 0, 20), 5);
        due("need(0, 0, 21)", x.need(0, 0, 21), BAD);
        due("need(0, 0, -1)", x.need(0, 0, -1), BAD);
        due("need(0, 0, LOWEST)", x.need(0, 0, LOWEST), BAD);
        due("need(0, 0, HIGHEST)", x.need(0, 0, HIGHEST), BAD);
        due("a refused one changes nothing: need(0, 0, 0)", x.need(0, 0, 0), 20);
        says(4, "0: nothing");
        TimeResources y = with(1);
        y.need(0, 0, 1);
        due("1 of nothing, narrow()", y.narrow(), 0);
        due("need(0, 0, 0)", y.need(0, 0, 0), 1);
        due("0 of nothing, narrow()", y.narrow(), 1);
    }

    private static void needOfNoInterval() {
        says(4, "BAD: none such");
        TimeResources x = with(2);
        for (int r : new int[] {-1, 3, LOWEST, HIGHEST}) {
            due("need(" + r + ", 0, 1)", x.need(r, 0, 1), BAD);
        }
        for (int i : new int[] {-1, 2, 9, 10, LOWEST, HIGHEST}) {
            due("need(0, " + i + ", 1)", x.need(0, i, 1), BAD);
        }
        x.interval(1, 0, 0, false);
        due("what was refused is not kept for a later interval", x.need(0, 2, 0), 0);
    }

    private static void pauseRanges() {
        TimeResources x = new TimeResources();
        says(5, "from a time on (0 .. 130)");
        due("pause(0, -1, 5)", x.pause(0, -1, 5), BAD);
        due("pause(0, 131, 131)", x.pause(0, 131, 131), BAD);
        due("pause(0, 131, 132)", x.pause(0, 131, 132), BAD);
        due("pause(0, 0, 5)", x.pause(0, 0, 5), 1);
        due("pause(0, 130, 131)", x.pause(0, 130, 131), 2);
        says(5, "up to another one (above it, 131 at most)");
        due("pause(0, 5, 4)", x.pause(0, 5, 4), BAD);
        due("pause(0, 5, 5)", x.pause(0, 5, 5), BAD);
        due("pause(0, 0, 0)", x.pause(0, 0, 0), BAD);
        due("pause(0, 130, 130)", x.pause(0, 130, 130), BAD);
        due("pause(0, 5, 132)", x.pause(0, 5, 132), BAD);
        due("pause(0, 5, 6)", x.pause(0, 5, 6), 3);
        due("pause(0, 5, 131)", x.pause(0, 5, 131), 4);
        says(5, "calendar 0, 1 .. BAD: none such");
        for (int c : new int[] {-1, 2, LOWEST, HIGHEST}) {
            due("pause(" + c + ", 0, 1)", x.pause(c, 0, 1), BAD);
        }
        for (int far : new int[] {LOWEST, HIGHEST}) {
            due("pause(0, " + far + ", 1)", x.pause(0, far, 1), BAD);
            due("pause(0, 0, " + far + ")", x.pause(0, 0, far), BAD);
        }
        says(5, "how many it has");
        due("no refused one is counted", x.pause(0, 5, 6), 5);
        due("of the other calendar", x.pause(1, 5, 6), 1);
    }

    private static void pauseFull() {
        says(5, "FULL: 6");
        TimeResources x = new TimeResources();
        x.interval(1, 0, 20, false);
        x.interval(1, 0, 20, false);
        x.calendar(0, 0);
        x.calendar(1, 1);
        for (int k = 0; k < 6; k++) {
            due("pause " + k, x.pause(0, k, k + 1), k + 1);
        }
        due("a seventh", x.pause(0, 6, 7), FULL);
        due("pause(1, 0, 3)", x.pause(1, 0, 3), 1);
        due("narrow()", x.narrow(), 1);
        due("the seventh is no break, e", x.about(0, 0), 6);
        due("the other calendar, e", x.about(1, 0), 3);
    }

    private static void calendar() {
        TimeResources x = with(2);
        says(6, "what it had (NONE)");
        due("calendar(0, 1)", x.calendar(0, 1), NONE);
        due("calendar(0, 0)", x.calendar(0, 0), 1);
        due("calendar(1, 0)", x.calendar(1, 0), NONE);
        says(6, "- 1: none");
        due("calendar(0, -1)", x.calendar(0, -1), 0);
        due("about(0, 5)", x.about(0, 5), NONE);
        due("calendar(0, -1) again", x.calendar(0, -1), NONE);
        x.pause(0, 0, 3);
        x.narrow();
        due("without a calendar, e", x.about(0, 0), 0);
        due("with one, e", x.about(1, 0), 3);
        says(6, "BAD: none such");
        for (int c : new int[] {-2, 2, LOWEST, HIGHEST}) {
            due("calendar(1, " + c + ")", x.calendar(1, c), BAD);
        }
        for (int i : new int[] {-1, 2, 9, 10, LOWEST, HIGHEST}) {
            due("calendar(" + i + ", 1)", x.calendar(i, 1), BAD);
        }
        due("a refused one changes nothing", x.about(1, 5), 0);
        x.interval(1, 0, 0, false);
        due("nor is it kept for a later interval", x.about(2, 5), NONE);
    }

    private static void row() {
        TimeResources x = with(2);
        says(7, "1; 0: it is");
        due("row(0, 0)", x.row(0, 0), 1);
        due("row(0, 0) again", x.row(0, 0), 0);
        due("row(0, 0) once more", x.row(0, 0), 0);
        says(7, "it may be in both");
        due("row(1, 0)", x.row(1, 0), 1);
        due("row(1, 0) again", x.row(1, 0), 0);
        says(7, "BAD: none such");
        for (int k : new int[] {-1, 2, LOWEST, HIGHEST}) {
            due("row(" + k + ", 1)", x.row(k, 1), BAD);
        }
        for (int i : new int[] {-1, 2, 9, 10, LOWEST, HIGHEST}) {
            due("row(0, " + i + ")", x.row(0, i), BAD);
        }
        due("a refused one changes nothing: row(0, 1)", x.row(0, 1), 1);
        due("a refused one changes nothing: row(1, 1)", x.row(1, 1), 1);
        x.interval(1, 0, 0, false);
        due("nor is it kept for a later interval: row(0, 2)", x.row(0, 2), 1);
    }

    private static void kind() {
        TimeResources x = with(2);
        says(8, "0 at first");
        due("about(0, 4)", x.about(0, 4), 0);
        due("kind(0, 1)", x.kind(0, 1), 0);
        says(8, "The kind 0 .. 3");
        due("kind(0, 3)", x.kind(0, 3), 1);
        due("kind(0, 4)", x.kind(0, 4), BAD);
        due("about(0, 4)", x.about(0, 4), 3);
        due("kind(0, 0)", x.kind(0, 0), 3);
        due("kind(0, -1)", x.kind(0, -1), BAD);
        due("kind(0, LOWEST)", x.kind(0, LOWEST), BAD);
        due("kind(0, HIGHEST)", x.kind(0, HIGHEST), BAD);
        due("about(0, 4)", x.about(0, 4), 0);
        due("another one's kind", x.about(1, 4), 0);
        says(8, "BAD: none such");
        for (int i : new int[] {-1, 2, 9, 10, LOWEST, HIGHEST}) {
            due("kind(" + i + ", 1)", x.kind(i, 1), BAD);
        }
        x.interval(1, 0, 0, false);
        due("a refused one is not kept for a later interval", x.about(2, 4), 0);
    }

    private static void changeRanges() {
        TimeResources x = new TimeResources();
        says(9, "0 .. 20");
        due("change(0, 1, 2, 20)", x.change(0, 1, 2, 20), 0);
        due("change(0, 1, 2, 21)", x.change(0, 1, 2, 21), BAD);
        due("change(0, 1, 2, -1)", x.change(0, 1, 2, -1), BAD);
        due("change(0, 1, 2, LOWEST)", x.change(0, 1, 2, LOWEST), BAD);
        due("change(0, 1, 2, HIGHEST)", x.change(0, 1, 2, HIGHEST), BAD);
        due("a refused one changes nothing: change(0, 1, 2, 0)", x.change(0, 1, 2, 0), 20);
        due("change(0, 1, 2, 7)", x.change(0, 1, 2, 7), 0);
        says(9, "BAD: none such");
        for (int k : new int[] {-1, 2, LOWEST, HIGHEST}) {
            due("change(" + k + ", 1, 2, 3)", x.change(k, 1, 2, 3), BAD);
        }
        for (int k : new int[] {-1, 4, LOWEST, HIGHEST}) {
            due("change(0, " + k + ", 2, 3)", x.change(0, k, 2, 3), BAD);
            due("change(0, 1, " + k + ", 3)", x.change(0, 1, k, 3), BAD);
        }
        due("change(0, 1, 2, 0)", x.change(0, 1, 2, 0), 7);
    }

    private static void changeCells() {
        TimeResources x = new TimeResources();
        says(9, "0 at first");
        for (int cell = 0; cell < 32; cell++) {
            due("cell " + cell, x.change(cell / 16, cell / 4 % 4, cell % 4, cell % 21), 0);
        }
        says(9, "of a row from a kind to a kind .. what it was");
        for (int cell = 0; cell < 32; cell++) {
            due("cell " + cell, x.change(cell / 16, cell / 4 % 4, cell % 4, 0), cell % 21);
        }
    }

    /** All changes are 20 but three: a to b is 3, b to c is 4. */
    private static TimeResources withShortWay(int row, int a, int b, int c) {
        TimeResources x = new TimeResources();
        for (int cell = 0; cell < 16; cell++) {
            x.change(row, cell / 4, cell % 4, 20);
        }
        x.change(row, a, b, 3);
        x.change(row, b, c, 4);
        return x;
    }

    private static void triangle() {
        says(10, "nowhere above those from a to b and b to c");
        for (int way = 0; way < 64; way++) {
            int a = way / 16;
            int b = way / 4 % 4;
            int c = way % 4;
            if (a == b || b == c || a == c) {
                continue;
            }
            for (int row = 0; row < 2; row++) {
                String name = " of row " + row + " by " + a + ", " + b + ", " + c;
                TimeResources x = withShortWay(row, a, b, c);
                x.change(row, a, c, 7);
                due("as long as both" + name, x.triangle(row), 1);
                due("the other row" + name, x.triangle(1 - row), 1);
                x.change(row, a, c, 8);
                due("longer than both" + name, x.triangle(row), 0);
                due("the other row" + name, x.triangle(1 - row), 1);
            }
        }
        says(10, "BAD: none such");
        TimeResources x = new TimeResources();
        for (int row : new int[] {-1, 2, LOWEST, HIGHEST}) {
            due("triangle(" + row + ")", x.triangle(row), BAD);
        }
    }

    private static void triangleOfOneKind() {
        says(10, "from a to c, the same kind");
        TimeResources x = new TimeResources();
        for (int cell = 0; cell < 16; cell++) {
            x.change(0, cell / 4, cell % 4, cell / 4 == cell % 4 ? 0 : 1);
        }
        due("to stay takes nothing", x.triangle(0), 1);
        x.change(0, 2, 2, 2);
        due("to stay takes as long as to go and come back", x.triangle(0), 1);
        x.change(0, 2, 2, 3);
        due("to stay takes longer", x.triangle(0), 0);
    }

    private static void beforeRanges() {
        TimeResources x = with(3);
        says(11, "lag (- 30 .. 30)");
        due("before(0, 1, -31)", x.before(0, 1, -31), BAD);
        due("before(0, 1, 31)", x.before(0, 1, 31), BAD);
        due("before(0, 1, LOWEST)", x.before(0, 1, LOWEST), BAD);
        due("before(0, 1, HIGHEST)", x.before(0, 1, HIGHEST), BAD);
        due("count(3)", x.count(3), 0);
        due("before(0, 1, -30)", x.before(0, 1, -30), 1);
        due("before(0, 1, 30)", x.before(0, 1, 30), 2);
        due("before(0, 1, 0)", x.before(0, 1, 0), 3);
        says(11, "BAD: none such");
        for (int i : new int[] {-1, 3, 9, 10, LOWEST, HIGHEST}) {
            due("before(" + i + ", 1, 0)", x.before(i, 1, 0), BAD);
            due("before(0, " + i + ", 0)", x.before(0, i, 0), BAD);
        }
        says(11, "BAD: .. the same");
        for (int i = 0; i < 3; i++) {
            due("before(" + i + ", " + i + ", 0)", x.before(i, i, 0), BAD);
        }
        says(11, "how many there are");
        due("count(3)", x.count(3), 3);
        due("before(2, 0, 0)", x.before(2, 0, 0), 4);
    }

    private static void beforeFull() {
        says(11, "FULL: 20");
        TimeResources x = with(3);
        for (int k = 1; k <= 20; k++) {
            due("order " + k, x.before(0, 1, k == 20 ? 3 : 0), k);
        }
        due("one more", x.before(0, 1, 4), FULL);
        due("one of others", x.before(1, 2, 0), FULL);
        due("count(3)", x.count(3), 20);
        due("narrow()", x.narrow(), 1);
        due("the twentieth counts, e of 1", x.about(1, 0), 5);
        due("what was refused does not, e of 2", x.about(2, 0), 0);
    }

    private static void storeRanges() {
        TimeResources x = with(1);
        says(12, "- 100 .. 100 all");
        due("store(0, 100, -100, 100)", x.store(0, 100, -100, 100), 1);
        due("store(0, -100, -100, 100)", x.store(0, -100, -100, 100), 1);
        due("store(0, 101, -100, 100)", x.store(0, 101, -100, 100), BAD);
        due("store(0, -101, -100, 100)", x.store(0, -101, -100, 100), BAD);
        due("store(0, 0, -101, 100)", x.store(0, 0, -101, 100), BAD);
        due("store(0, 0, -100, 101)", x.store(0, 0, -100, 101), BAD);
        due("store(0, 0, 100, 100)", x.store(0, 0, 100, 100), 1);
        due("store(0, 0, 101, 101)", x.store(0, 0, 101, 101), BAD);
        due("store(0, 0, -100, -100)", x.store(0, 0, -100, -100), 1);
        due("store(0, 0, -101, -101)", x.store(0, 0, -101, -101), BAD);
        for (int far : new int[] {LOWEST, HIGHEST}) {
            due("begin " + far, x.store(0, far, 0, 0), BAD);
            due("least " + far, x.store(0, 0, far, 0), BAD);
            due("most " + far, x.store(0, 0, 0, far), BAD);
        }
        says(12, "the least not above the greatest");
        due("store(1, 0, 5, 5)", x.store(1, 0, 5, 5), 1);
        due("store(1, 0, 5, 4)", x.store(1, 0, 5, 4), BAD);
        due("store(1, 0, 5, 6)", x.store(1, 0, 5, 6), 1);
        says(12, "A STORE 0, 1 .. BAD: none such");
        for (int k : new int[] {-1, 2, LOWEST, HIGHEST}) {
            due("store(" + k + ", 0, 0, 0)", x.store(k, 0, 0, 0), BAD);
        }
    }

    /** Three open intervals at 0 that change a store by 50, 50 and 1. */
    private static TimeResources withEvents(int k, int sign) {
        TimeResources x = new TimeResources();
        for (int i = 0; i < 3; i++) {
            x.interval(1, 0, 0, true);
            x.event(k, i, false, sign * (i < 2 ? 50 : 1));
        }
        return x;
    }

    private static void storeAtFirst() {
        says(12, "At first 0, - 100, 100.");
        for (int k = 0; k < 2; k++) {
            for (int sign = -1; sign <= 1; sign += 2) {
                TimeResources x = withEvents(k, sign);
                x.fix(0, 2, 0);
                x.fix(1, 2, 0);
                due("store " + k + " at " + 100 * sign + ", narrow()", x.narrow(), 1);
                x.fix(2, 2, 0);
                due("store " + k + " at " + 101 * sign + ", narrow()", x.narrow(), 0);
            }
        }
    }

    private static void storeRefused() {
        says(12, "BAD: none such, what was told stays");
        TimeResources x = with(1);
        x.event(1, 0, false, 1);
        x.store(1, 3, 3, 4);
        x.store(1, 4, 3, 2);
        x.store(1, 9, 0, 101);
        x.store(2, 9, 9, 9);
        due("from 3 to 4, narrow()", x.narrow(), 1);
        x.store(1, 3, 3, 3);
        due("what was told is instead of it, narrow()", x.narrow(), 0);
    }

    private static void eventRanges() {
        TimeResources x = with(2);
        says(13, "v (- 50 .. 50, not 0)");
        due("event(0, 0, false, -51)", x.event(0, 0, false, -51), BAD);
        due("event(0, 0, false, 51)", x.event(0, 0, false, 51), BAD);
        due("event(0, 0, false, 0)", x.event(0, 0, false, 0), BAD);
        due("event(0, 0, true, 0)", x.event(0, 0, true, 0), BAD);
        due("event(0, 0, false, LOWEST)", x.event(0, 0, false, LOWEST), BAD);
        due("event(0, 0, false, HIGHEST)", x.event(0, 0, false, HIGHEST), BAD);
        due("event(0, 0, false, -50)", x.event(0, 0, false, -50), 1);
        due("event(0, 0, false, 50)", x.event(0, 0, false, 50), 2);
        due("event(0, 0, true, -1)", x.event(0, 0, true, -1), 3);
        due("event(0, 0, true, 1)", x.event(0, 0, true, 1), 4);
        says(13, "BAD: none such");
        for (int k : new int[] {-1, 2, LOWEST, HIGHEST}) {
            due("event(" + k + ", 0, true, 1)", x.event(k, 0, true, 1), BAD);
        }
        for (int i : new int[] {-1, 2, 9, 10, LOWEST, HIGHEST}) {
            due("event(0, " + i + ", true, 1)", x.event(0, i, true, 1), BAD);
        }
        says(13, "how many it has");
        due("event(1, 0, true, 1)", x.event(1, 0, true, 1), 1);
        due("event(0, 1, true, 1)", x.event(0, 1, true, 1), 5);
    }

    private static void eventFull() {
        says(13, "FULL: 10");
        TimeResources x = with(1);
        x.store(0, 0, 0, 10);
        for (int k = 1; k <= 10; k++) {
            due("event " + k, x.event(0, 0, false, 1), k);
        }
        due("one more", x.event(0, 0, false, 1), FULL);
        due("the other store", x.event(1, 0, false, 1), 1);
        due("ten are not above 10, narrow()", x.narrow(), 1);
        x.store(0, 0, 0, 9);
        due("ten are above 9, narrow()", x.narrow(), 0);
    }

    private static void eventAtStartOrEnd() {
        says(13, "at an interval's start, or end");
        for (int gap = 1; gap <= 2; gap++) {
            for (int atEnd = 0; atEnd <= 1; atEnd++) {
                TimeResources x = new TimeResources();
                x.interval(2, 0, 0, false);
                x.interval(1, gap, gap, false);
                x.store(0, 1, 0, 1);
                x.event(0, 1, false, -1);
                x.event(0, 0, atEnd == 1, 1);
                // At the end, at 2, it is added only when there is room again.
                due("added at " + 2 * atEnd + ", taken at " + gap + ", narrow()", x.narrow(), atEnd);
            }
        }
    }

    private static void optionRefused() {
        TimeResources x = new TimeResources();
        for (int i = 0; i < 6; i++) {
            x.interval(i < 5 ? 4 : 5, 0, 9, true);
        }
        x.interval(3, 0, 9, true);
        says(14, "a master of its LENGTH .. BAD: another LENGTH");
        due("one more, option(0, 5)", x.option(0, 5), BAD);
        due("one less, option(0, 6)", x.option(0, 6), BAD);
        due("option(0, 1)", x.option(0, 1), 1);
        says(14, "BAD: .. the same");
        due("option(2, 2)", x.option(2, 2), BAD);
        due("option(0, 0)", x.option(0, 0), BAD);
        says(14, "BAD: .. one of them is an option");
        due("it is this one's, option(0, 1)", x.option(0, 1), BAD);
        due("it is another's, option(2, 1)", x.option(2, 1), BAD);
        due("the master is, option(1, 2)", x.option(1, 2), BAD);
        says(14, "BAD: .. the option a master");
        due("option(2, 0)", x.option(2, 0), BAD);
        due("the option's own, option(1, 0)", x.option(1, 0), BAD);
        says(14, "BAD: none such");
        for (int i : new int[] {-1, 7, 9, 10, LOWEST, HIGHEST}) {
            due("option(" + i + ", 2)", x.option(i, 2), BAD);
            due("option(0, " + i + ")", x.option(0, i), BAD);
        }
        says(14, "BAD changes nothing");
        for (int i = 0; i < 7; i++) {
            due("about(" + i + ", 6)", x.about(i, 6), i == 1 ? 0 : NONE);
            due("about(" + i + ", 7)", x.about(i, 7), i == 0 ? 1 : 0);
        }
        due("neither is an option or a master, option(2, 3)", x.option(2, 3), 1);
        due("the master is one, option(0, 4)", x.option(0, 4), 2);
    }

    private static void optionCounts() {
        says(14, "how many options that has");
        TimeResources x = with(10);
        for (int i = 8; i >= 0; i--) {
            due("option(9, " + i + ")", x.option(9, i), 9 - i);
        }
        due("about(9, 7)", x.about(9, 7), 9);
    }

    private static void fixLater() {
        says(15, "0 starts at v or later");
        for (int presence = 1; presence <= 2; presence++) {
            TimeResources x = new TimeResources();
            x.interval(3, 5, 9, presence == 2);
            due("fix(0, 0, 4)", x.fix(0, 0, 4), 1);
            due("fix(0, 0, 5)", x.fix(0, 0, 5), 1);
            dueBounds(x, 0, 5, 9, presence);
            due("fix(0, 0, 6)", x.fix(0, 0, 6), 1);
            dueBounds(x, 0, 6, 9, presence);
            due("above l, fix(0, 0, 10)", x.fix(0, 0, 10), 0);
            dueBounds(x, 0, 6, 9, presence);
            due("just l, fix(0, 0, 9)", x.fix(0, 0, 9), 1);
            dueBounds(x, 0, 9, 9, presence);
        }
    }

    private static void fixEarlier() {
        says(15, "1 at v or earlier");
        for (int presence = 1; presence <= 2; presence++) {
            TimeResources x = new TimeResources();
            x.interval(3, 5, 9, presence == 2);
            due("fix(0, 1, 10)", x.fix(0, 1, 10), 1);
            due("fix(0, 1, 9)", x.fix(0, 1, 9), 1);
            dueBounds(x, 0, 5, 9, presence);
            due("fix(0, 1, 8)", x.fix(0, 1, 8), 1);
            dueBounds(x, 0, 5, 8, presence);
            due("below e, fix(0, 1, 4)", x.fix(0, 1, 4), 0);
            dueBounds(x, 0, 5, 8, presence);
            due("just e, fix(0, 1, 5)", x.fix(0, 1, 5), 1);
            dueBounds(x, 0, 5, 5, presence);
        }
    }

    private static void fixPresent() {
        says(15, "2 is present .. (v counts for nothing)");
        for (int v : new int[] {0, -1, 101, LOWEST, HIGHEST}) {
            TimeResources x = new TimeResources();
            x.interval(3, 5, 9, true);
            due("an open one, fix(0, 2, " + v + ")", x.fix(0, 2, v), 1);
            dueBounds(x, 0, 5, 9, 1);
            due("a present one, fix(0, 2, " + v + ")", x.fix(0, 2, v), 1);
            dueBounds(x, 0, 5, 9, 1);
        }
    }

    private static void fixAbsent() {
        says(15, "3 is absent (v counts for nothing)");
        for (int v : new int[] {0, -1, 101, LOWEST, HIGHEST}) {
            TimeResources x = new TimeResources();
            x.interval(3, 5, 9, true);
            x.interval(3, 5, 9, false);
            due("an open one, fix(0, 3, " + v + ")", x.fix(0, 3, v), 1);
            dueBounds(x, 0, 5, 9, 0);
            due("a present one, fix(1, 3, " + v + ")", x.fix(1, 3, v), 0);
            dueBounds(x, 1, 5, 9, 1);
        }
    }

    private static void fixOfAnAbsentOne() {
        says(15, "0: .. also of an absent one, but to be absent; nothing is changed");
        TimeResources x = new TimeResources();
        x.interval(3, 5, 9, true);
        x.fix(0, 3, 0);
        for (int v : new int[] {0, 4, 5, 7, 9, 10, 100}) {
            due("fix(0, 0, " + v + ")", x.fix(0, 0, v), 0);
            due("fix(0, 1, " + v + ")", x.fix(0, 1, v), 0);
            due("fix(0, 2, " + v + ")", x.fix(0, 2, v), 0);
            due("fix(0, 3, " + v + ")", x.fix(0, 3, v), 1);
            dueBounds(x, 0, 5, 9, 0);
        }
        for (int v : new int[] {-1, 101}) {
            due("fix(0, 0, " + v + ")", x.fix(0, 0, v), BAD);
            due("fix(0, 1, " + v + ")", x.fix(0, 1, v), BAD);
        }
    }

    private static void fixRanges() {
        says(15, "BAD: .. v not 0 .. 100 (of 0, 1)");
        TimeResources x = new TimeResources();
        x.interval(3, 0, 100, false);
        for (int what = 0; what <= 1; what++) {
            for (int v : new int[] {-1, 101, LOWEST, HIGHEST}) {
                due("fix(0, " + what + ", " + v + ")", x.fix(0, what, v), BAD);
            }
        }
        dueBounds(x, 0, 0, 100, 1);
        says(15, "BAD: none such");
        for (int what : new int[] {-1, 4, LOWEST, HIGHEST}) {
            due("fix(0, " + what + ", 5)", x.fix(0, what, 5), BAD);
        }
        for (int i : new int[] {-1, 1, 9, 10, LOWEST, HIGHEST}) {
            for (int what = 0; what <= 3; what++) {
                due("fix(" + i + ", " + what + ", 5)", x.fix(i, what, 5), BAD);
            }
        }
        dueBounds(x, 0, 0, 100, 1);
        says(15, "v 0 .. 100");
        due("fix(0, 0, 0)", x.fix(0, 0, 0), 1);
        due("fix(0, 1, 100)", x.fix(0, 1, 100), 1);
        due("fix(0, 0, 100)", x.fix(0, 0, 100), 1);
        dueBounds(x, 0, 100, 100, 1);
        x.interval(3, 0, 100, false);
        due("fix(1, 1, 0)", x.fix(1, 1, 0), 1);
        dueBounds(x, 1, 0, 0, 1);
    }

    /** A chain 0, 1, 2, 3 from 4 on, told such that it takes a second ROUND to see that 9 is too early for 3. */
    private static TimeResources withChain(int lastStart) {
        TimeResources x = new TimeResources();
        x.interval(2, 4, 50, false);
        x.interval(2, 0, 50, false);
        x.interval(2, 0, 50, false);
        x.interval(2, 0, lastStart, false);
        x.interval(2, 0, 3, true);
        x.before(0, 4, 0);
        x.before(1, 2, 0);
        x.before(0, 1, 0);
        x.before(2, 3, 0);
        return x;
    }

    private static void narrowFails() {
        says(16, "0: FAIL: all is as before");
        TimeResources x = withChain(9);
        due("narrow()", x.narrow(), 0);
        due("it fails in ROUND", x.told(1), 2);
        dueBounds(x, 0, 4, 50, 1);
        dueBounds(x, 1, 0, 50, 1);
        dueBounds(x, 2, 0, 50, 1);
        dueBounds(x, 3, 0, 9, 1);
        dueBounds(x, 4, 0, 3, 2);
        due("present", x.count(4), 4);
        due("absent", x.count(5), 0);
        due("open", x.count(6), 1);
        due("narrow() again", x.narrow(), 0);
        says(16, "1");
        TimeResources y = withChain(10);
        due("narrow()", y.narrow(), 1);
        dueBounds(y, 0, 4, 4, 1);
        dueBounds(y, 1, 6, 6, 1);
        dueBounds(y, 2, 8, 8, 1);
        dueBounds(y, 3, 10, 10, 1);
        dueBounds(y, 4, 0, 3, 0);
    }

    private static void toldRule() {
        says(17, "0 the RULE that failed (0: none)");
        TimeResources x = with(2);
        due("ahead of any narrow()", x.told(0), 0);
        x.before(0, 1, 9);
        x.narrow();
        due("a FAIL", x.told(0), 1);
        x.solve(5);
        due("solve() is no narrow()", x.told(0), 1);
        x.fix(1, 1, 3);
        due("nor is fix()", x.told(0), 1);
        TimeResources y = with(2);
        y.before(0, 1, 8);
        y.narrow();
        due("no FAIL", y.told(0), 0);
        y.fix(0, 0, 0);
        y.before(1, 0, 0);
        y.narrow();
        due("a FAIL of the latest", y.told(0), 1);
        says(17, "BAD: another number");
        for (int what : new int[] {-1, 3, LOWEST, HIGHEST}) {
            due("told(" + what + ")", x.told(what), BAD);
        }
    }

    private static void toldRounds() {
        says(17, "1 ROUNDS (the last one, that changed nothing or failed, too)");
        TimeResources x = with(2);
        due("ahead of any narrow()", x.told(1), 0);
        x.narrow();
        due("nothing to change", x.told(1), 1);
        x.before(0, 1, 0);
        x.narrow();
        due("one that changed, one that did not", x.told(1), 2);
        x.narrow();
        due("of the latest", x.told(1), 1);
        x.solve(3);
        due("solve() is no narrow()", x.told(1), 1);
        x.before(1, 0, 9);
        x.narrow();
        due("the first fails", x.told(1), 1);
        TimeResources y = withChain(9);
        y.narrow();
        due("the second fails", y.told(1), 2);
        TimeResources z = withChain(10);
        z.narrow();
        due("two that changed, one that did not", z.told(1), 3);
    }

    private static void toldOthers() {
        says(17, "2 how many of all e, l, PRESENCES are others behind it (0 with FAIL)");
        TimeResources x = withChain(10);
        due("ahead of any narrow()", x.told(2), 0);
        x.narrow();
        // l of 0, both of 1, both of 2, e of 3, the PRESENCE of 4: what moved twice counts once.
        due("one by one", x.told(2), 7);
        x.narrow();
        due("of the latest", x.told(2), 0);
        TimeResources y = withChain(9);
        y.narrow();
        due("a FAIL", y.told(2), 0);
        TimeResources z = new TimeResources();
        z.interval(1, 0, 9, false);
        z.interval(1, 0, 9, true);
        z.before(0, 1, 2);
        z.narrow();
        due("an e alone", z.told(2), 1);
        z.option(0, 1);
        z.narrow();
        due("a FAIL behind it", z.told(2), 0);
        TimeResources w = new TimeResources();
        w.interval(1, 0, 9, false);
        w.interval(1, 0, 9, true);
        w.option(0, 1);
        w.narrow();
        due("a PRESENCE alone, from open to present", w.told(2), 1);
    }

    private static void about() {
        TimeResources x = new TimeResources();
        x.interval(4, 1, 9, true);
        x.interval(4, 2, 8, false);
        says(18, "5 calendar (NONE), 6 its master (NONE)");
        for (int i = 0; i < 2; i++) {
            due("about(" + i + ", 5)", x.about(i, 5), NONE);
            due("about(" + i + ", 6)", x.about(i, 6), NONE);
            due("about(" + i + ", 7)", x.about(i, 7), 0);
        }
        x.kind(0, 3);
        x.calendar(0, 1);
        x.option(1, 0);
        says(18, "0 e, 1 l, 2 PRESENCE, 3 LENGTH, 4 kind, 5 calendar, 6 its master, 7 how many options");
        int[] first = {1, 9, 2, 4, 3, 1, 1, 0};
        int[] second = {2, 8, 1, 4, 0, NONE, NONE, 1};
        for (int what = 0; what < 8; what++) {
            due("about(0, " + what + ")", x.about(0, what), first[what]);
            due("about(1, " + what + ")", x.about(1, what), second[what]);
        }
        says(18, "BAD: none such");
        for (int what : new int[] {-1, 8, LOWEST, HIGHEST}) {
            due("about(0, " + what + ")", x.about(0, what), BAD);
        }
        for (int i : new int[] {-1, 2, 9, 10, LOWEST, HIGHEST}) {
            for (int what = 0; what < 8; what++) {
                due("about(" + i + ", " + what + ")", x.about(i, what), BAD);
            }
        }
    }

    private static void keep() {
        says(19, "(instead of what was): 1");
        TimeResources x = new TimeResources();
        due("keep() of no interval", x.keep(), 1);
        x.interval(3, 0, 20, true);
        due("keep()", x.keep(), 1);
        x.fix(0, 0, 5);
        due("keep() again", x.keep(), 1);
        x.fix(0, 0, 7);
        x.fix(0, 1, 9);
        x.fix(0, 2, 0);
        dueBounds(x, 0, 7, 9, 1);
        due("back()", x.back(), 1);
        dueBounds(x, 0, 5, 20, 2);
        says(19, "All bounds and PRESENCES, nothing else");
        x.kind(0, 2);
        x.need(0, 0, 3);
        x.keep();
        x.kind(0, 3);
        x.need(0, 0, 4);
        x.row(0, 0);
        x.back();
        due("kind", x.about(0, 4), 3);
        due("need", x.need(0, 0, 0), 4);
        due("row", x.row(0, 0), 0);
    }

    private static void back() {
        says(20, "NONE: nothing is kept");
        TimeResources x = new TimeResources();
        due("back()", x.back(), NONE);
        x.interval(3, 0, 20, true);
        x.fix(0, 0, 4);
        due("back()", x.back(), NONE);
        dueBounds(x, 0, 4, 20, 2);
        says(20, "for the intervals that there were then: how many these are");
        TimeResources y = new TimeResources();
        y.keep();
        y.interval(3, 0, 20, true);
        due("none were there, back()", y.back(), 0);
        dueBounds(y, 0, 0, 20, 2);
        y.keep();
        y.interval(3, 1, 19, true);
        y.fix(0, 3, 0);
        y.fix(1, 0, 6);
        y.fix(1, 1, 8);
        y.fix(1, 2, 0);
        due("one was there, back()", y.back(), 1);
        dueBounds(y, 0, 0, 20, 2);
        dueBounds(y, 1, 6, 8, 1);
        due("count(2)", y.count(2), 2);
        y.fix(0, 1, 3);
        due("it stays kept, back()", y.back(), 1);
        dueBounds(y, 0, 0, 20, 2);
        y.fix(0, 2, 0);
        y.before(0, 1, 0);
        y.keep();
        y.narrow();
        dueBounds(y, 0, 0, 5, 1);
        due("what was narrowed goes back, too", y.back(), 2);
        dueBounds(y, 0, 0, 20, 1);
    }

    private static void planOfAnInterval() {
        says(22, "NONE: absent, or there is no PLAN");
        TimeResources x = new TimeResources();
        x.interval(2, 3, 9, false);
        x.interval(9, 3, 9, true);
        due("ahead of solve(), plan(0)", x.plan(0), NONE);
        x.solve(400);
        due("plan(0)", x.plan(0), 3);
        due("an absent one, plan(1)", x.plan(1), NONE);
        due("cut with none", x.solve(1), TimeResources.CUT);
        due("plan(0)", x.plan(0), NONE);
        x.solve(400);
        due("plan(0)", x.plan(0), 3);
        x.need(0, 0, 1);
        due("there is none", x.solve(400), 0);
        due("plan(0)", x.plan(0), NONE);
        says(22, "BAD: no such interval");
        for (int i : new int[] {-1, 2, 9, 10, LOWEST, HIGHEST}) {
            due("plan(" + i + ")", x.plan(i), BAD);
        }
    }

    private static void planOfALaterOne() {
        says(22, "one that came later: NONE");
        TimeResources x = with(1);
        x.solve(400);
        due("no such interval, plan(1)", x.plan(1), BAD);
        x.interval(2, 0, 0, false);
        due("it came later, plan(1)", x.plan(1), NONE);
        due("plan(0)", x.plan(0), 0);
        x.solve(400);
        due("it was there, plan(1)", x.plan(1), 0);
        says(22, "of the latest solve()");
        x.fix(0, 0, 4);
        due("fix() is no solve(), plan(0)", x.plan(0), 0);
        x.solve(400);
        due("plan(0)", x.plan(0), 4);
    }

    private static void countOfPlan() {
        says(23, "0 when the PLAN ends (NONE without), 1 TRIES of the latest solve()");
        TimeResources x = with(1);
        due("ahead of solve(), count(0)", x.count(0), NONE);
        due("ahead of solve(), count(1)", x.count(1), 0);
        x.fix(0, 0, 9);
        x.solve(400);
        due("count(0)", x.count(0), 11);
        due("count(1)", x.count(1), 2);
        x.interval(1, 0, 0, false);
        due("cut with none", x.solve(1), TimeResources.CUT);
        due("count(0)", x.count(0), NONE);
        due("count(1)", x.count(1), 1);
        x.before(0, 1, 0);
        due("there is none", x.solve(400), 0);
        due("count(0)", x.count(0), NONE);
        due("count(1)", x.count(1), 0);
    }

    private static void countOfThings() {
        says(23, "2 intervals, 3 ORDERS, 4 present, 5 absent, 6 open ones");
        TimeResources x = with(1);
        for (int i = 1; i < 10; i++) {
            x.interval(1, 0, 9, true);
            x.before(0, i, 0);
            due("count(2)", x.count(2), i + 1);
            due("count(3)", x.count(3), i);
            due("count(4)", x.count(4), 1);
            due("count(5)", x.count(5), 0);
            due("count(6)", x.count(6), i);
        }
        x.fix(1, 2, 0);
        x.fix(2, 2, 0);
        for (int i = 3; i < 6; i++) {
            x.fix(i, 3, 0);
        }
        due("count(2)", x.count(2), 10);
        due("count(4)", x.count(4), 3);
        due("count(5)", x.count(5), 3);
        due("count(6)", x.count(6), 4);
        says(23, "BAD: another number");
        for (int what : new int[] {-1, 7, LOWEST, HIGHEST}) {
            due("count(" + what + ")", x.count(what), BAD);
        }
    }

    private static void useRanges() {
        says(24, "a time (0 .. 130)");
        TimeResources x = new TimeResources();
        x.interval(1, 0, 0, false);
        x.interval(30, 100, 100, false);
        x.need(2, 0, 3);
        x.need(2, 1, 4);
        due("use(2, -1)", x.use(2, -1), BAD);
        due("use(2, 0)", x.use(2, 0), 3);
        due("use(2, 1)", x.use(2, 1), 0);
        due("use(2, 99)", x.use(2, 99), 0);
        due("use(2, 100)", x.use(2, 100), 4);
        due("use(2, 129)", x.use(2, 129), 4);
        due("use(2, 130)", x.use(2, 130), 0);
        due("use(2, 131)", x.use(2, 131), BAD);
        due("use(2, LOWEST)", x.use(2, LOWEST), BAD);
        due("use(2, HIGHEST)", x.use(2, HIGHEST), BAD);
        says(24, "BAD: none such");
        for (int r : new int[] {-1, 3, LOWEST, HIGHEST}) {
            due("use(" + r + ", 0)", x.use(r, 0), BAD);
        }
    }

    private static void useEdges() {
        says(24, "THE USE of a resource at a time, as bounds are");
        TimeResources x = new TimeResources();
        x.interval(5, 2, 4, false);
        x.interval(5, 4, 4, true);
        x.interval(5, 2, 7, false);
        for (int r = 0; r < 3; r++) {
            for (int i = 0; i < 3; i++) {
                x.need(r, i, 5 * r + i + 1);
            }
        }
        for (int r = 0; r < 3; r++) {
            int h = 5 * r;
            due("ahead of l", x.use(r, 3), 0);
            due("from l on", x.use(r, 4), h + 1);
            due("up to the earliest end", x.use(r, 6), h + 1);
            due("behind it, with the last one, whose l is its earliest end", x.use(r, 7), 0);
        }
        x.fix(1, 2, 0);
        due("one more is present", x.use(0, 4), 3);
        due("one more is present", x.use(0, 8), 2);
        x.fix(0, 0, 4);
        due("a later e", x.use(0, 8), 3);
        x.fix(2, 1, 6);
        due("an earlier l", x.use(0, 6), 6);
        due("an earlier l", x.use(0, 5), 3);
        due("what it will need is no matter of the capacity", x.capacity(0, 0), 0);
    }
}
