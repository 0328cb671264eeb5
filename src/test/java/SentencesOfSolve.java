/** Each sentence of promises 21 (solve) and 25 (check) that names a boundary: just inside it, just outside it. */
public final class SentencesOfSolve {
    private static final int BAD = TimeResources.BAD, NONE = TimeResources.NONE, CUT = TimeResources.CUT;
    private static String sentence = "";
    private static int wrong = 0;

    private static void says(int promise, String words) {
        sentence = "promise " + promise + ", '" + words + "': ";
    }

    private static void due(String call, int got, int want) {
        if (got != want) {
            wrong++;
            System.out.println(sentence + call + " answered " + got + ", due is " + want);
        }
    }

    public static void main(String[] args) {
        end();
        boundsAsTheyAre();
        firstOfEqualOnes();
        firstPresentThenAbsent();
        eachStart();
        startsByThen();
        presenceByThen();
        absentOnesAreNotTried();
        absentAtLast();
        absentIsAbsent();
        allRulesEachTime();
        endsEarlier();
        aheadOfTheRules();
        endsEarlierMakesAbsent();
        answers();
        noneBehindTries();
        failAtTheBeginning();
        ranges();
        fourHundred();
        boundsAreAsBefore();
        aWrongOneChangesNothing();
        theLatest();
        checkNone();
        checkOrders();
        checkBreaks();
        checkCapacities();
        checkRows();
        checkStores();
        checkStoreTimes();
        checkChoices();
        checkFirstThing();
        checkWithoutRules();
        System.out.println(wrong == 0 ? "all sentences hold" : wrong + " answers are not as due");
        if (wrong != 0) {
            System.exit(1);
        }
    }

    private static TimeResources of(int length, int from, int to, boolean optional) {
        TimeResources x = new TimeResources();
        x.interval(length, from, to, optional);
        return x;
    }

    /** What solve() answers, how many TRIES it took, and when the PLAN ends. */
    private static void dueSolve(TimeResources x, int tries, int answer, int tried, int end) {
        due("solve(" + tries + ")", x.solve(tries), answer);
        due("TRIES of solve(" + tries + ")", x.count(1), tried);
        due("end of solve(" + tries + ")", x.count(0), end);
    }

    private static void duePlan(TimeResources x, int... starts) {
        for (int i = 0; i < starts.length; i++) {
            due("plan(" + i + ")", x.plan(i), starts[i]);
        }
    }

    private static void dueBounds(TimeResources x, int i, int first, int last, int presence) {
        due("about(" + i + ", 0)", x.about(i, 0), first);
        due("about(" + i + ", 1)", x.about(i, 1), last);
        due("about(" + i + ", 2)", x.about(i, 2), presence);
    }

    private static void end() {
        says(21, "the greatest end of present ones; 0 without");
        dueSolve(new TimeResources(), 1, 1, 0, 0);
        TimeResources absent = of(5, 3, 9, true);
        absent.fix(0, 3, 0);
        dueSolve(absent, 1, 1, 0, 0);
        dueSolve(of(0, 0, 0, false), 1, 1, 1, 0);
        dueSolve(of(1, 0, 0, false), 1, 1, 1, 1);
        dueSolve(of(30, 100, 100, false), 1, 1, 1, 130);
        TimeResources x = of(9, 1, 1, false);
        x.interval(1, 8, 8, false);
        dueSolve(x, 9, 1, 2, 10);
        x.interval(1, 10, 10, false);
        dueSolve(x, 9, 1, 3, 11);
    }

    private static void boundsAsTheyAre() {
        says(21, "from bounds as they are");
        TimeResources x = of(2, 0, 9, true);
        x.fix(0, 0, 4);
        x.fix(0, 1, 6);
        x.fix(0, 2, 0);
        dueSolve(x, 400, 1, 3, 6);
        duePlan(x, 4);
    }

    private static void firstOfEqualOnes() {
        says(21, "of equal ones the first in this order: intervals by number, each at its least start first");
        TimeResources x = of(6, 0, 0, false);
        x.interval(2, 1, 4, false);
        x.interval(2, 1, 4, false);
        x.row(0, 1);
        x.row(0, 2);
        due("solve(400)", x.solve(400), 1);
        duePlan(x, 0, 1, 3);
        x.before(2, 1, 0);
        due("solve(400)", x.solve(400), 1);
        duePlan(x, 0, 3, 1);
        TimeResources later = of(2, 0, 5, false);
        later.interval(2, 0, 0, false);
        later.interval(1, 6, 6, false);
        later.row(0, 0);
        later.row(0, 1);
        due("then later ones, solve(400)", later.solve(400), 1);
        duePlan(later, 2, 0, 6);
        due("what ends earlier is ahead of what starts first", later.count(0), 7);
    }

    private static void firstPresentThenAbsent() {
        says(21, "then, if it is open, absent");
        TimeResources x = of(3, 0, 0, false);
        x.interval(3, 0, 5, true);
        due("present, if it ends no later", x.solve(400), 1);
        duePlan(x, 0, 0);
        TimeResources y = of(3, 0, 0, false);
        y.interval(4, 0, 5, true);
        due("absent, if it ends later", y.solve(400), 1);
        duePlan(y, 0, NONE);
        due("count(0)", y.count(0), 3);
        TimeResources z = of(0, 0, 0, true);
        dueSolve(z, 400, 1, 2, 0);
        duePlan(z, 0);
    }

    private static void eachStart() {
        says(21, "TRIED at each start from e to l");
        TimeResources x = of(2, 3, 6, false);
        dueSolve(x, 400, 1, 4, 5);
        dueSolve(x, 4, 1, 4, 5);
        dueSolve(x, 3, 2, 3, 5);
        dueSolve(x, 1, 2, 1, 5);
        duePlan(x, 3);
    }

    private static void startsByThen() {
        says(21, "as they are by then");
        TimeResources x = of(2, 0, 10, false);
        x.interval(2, 0, 10, false);
        x.before(0, 1, 0);
        // 0 at 0; 1 at 2 and from 3 to 10; 0 from 1 to 8.
        dueSolve(x, 400, 1, 18, 4);
        dueSolve(x, 18, 1, 18, 4);
        dueSolve(x, 17, 2, 17, 4);
        duePlan(x, 0, 2);
    }

    private static void presenceByThen() {
        says(21, "at last, if it was open, as absent (by then)");
        TimeResources x = of(1, 2, 3, false);
        x.interval(1, 0, 9, true);
        x.option(0, 1);
        // 0 at 2; the option, present by then, at 2; 0 at 3.
        dueSolve(x, 400, 1, 3, 3);
        duePlan(x, 2, 2);
        x.interval(1, 0, 9, true);
        x.before(0, 2, 7);
        // Behind 0 at 2 that is 1 at 10 alone: it is absent then, and not TRIED.
        dueSolve(x, 400, 1, 3, 3);
        duePlan(x, 2, 2, NONE);
    }

    private static void absentOnesAreNotTried() {
        says(21, "each not absent is TRIED");
        TimeResources x = of(1, 0, 0, true);
        x.interval(1, 0, 0, false);
        x.interval(1, 0, 0, true);
        x.fix(0, 3, 0);
        x.fix(2, 3, 0);
        dueSolve(x, 1, 1, 1, 1);
        duePlan(x, NONE, 0, NONE);
    }

    private static void absentAtLast() {
        says(21, "at last, if it was open, as absent");
        TimeResources x = of(2, 3, 6, true);
        dueSolve(x, 5, 1, 5, 0);
        duePlan(x, NONE);
        dueSolve(x, 4, 2, 4, 5);
        duePlan(x, 3);
        x.fix(0, 2, 0);
        dueSolve(x, 5, 1, 4, 5);
        duePlan(x, 3);
    }

    private static void absentIsAbsent() {
        says(21, "as absent; each time all RULES");
        TimeResources x = of(2, 5, 5, true);
        x.interval(2, 0, 0, true);
        x.interval(2, 0, 5, false);
        x.option(2, 0);
        x.option(2, 1);
        x.store(0, 0, 0, 9);
        x.event(0, 0, false, -1);
        // 0 at 5, which the store does not allow; 0 as absent, so that 1 is present; 1 at 0; 2 at 0.
        dueSolve(x, 400, 1, 4, 2);
        duePlan(x, NONE, 0, 0);
        dueSolve(x, 4, 1, 4, 2);
        dueSolve(x, 3, CUT, 3, NONE);
    }

    /** The last interval has no room beside the first one at 0 or at 1, by another RULE each time. */
    private static TimeResources withRoomFrom2(int rule) {
        TimeResources x = of(2, 0, 2, false);
        x.interval(2, rule == 3 || rule == 5 ? 0 : 4, 4, false);
        if (rule == 1) {
            x.before(1, 0, -4);
        } else if (rule == 2) {
            x.calendar(0, 1);
            x.pause(1, 0, 2);
        } else if (rule == 3) {
            x.fix(1, 1, 0);
            x.capacity(2, 3);
            x.need(2, 0, 2);
            x.need(2, 1, 2);
        } else if (rule == 5) {
            x.fix(1, 1, 0);
            x.row(1, 0);
            x.row(1, 1);
        } else {
            x.interval(2, 2, 2, true);
            x.option(0, 2);
        }
        return x;
    }

    private static void allRulesEachTime() {
        says(21, "At the beginning all RULES: one TRY each is left");
        for (int rule : new int[] {1, 2, 3, 5, 9}) {
            TimeResources x = withRoomFrom2(rule);
            due("RULE " + rule + ", solve(400)", x.solve(400), 1);
            due("RULE " + rule + ", plan(0)", x.plan(0), 2);
            due("RULE " + rule + ", TRIES", x.count(1), rule == 9 ? 3 : 2);
            due("RULE " + rule + ", check()", x.check(), 0);
        }
    }

    private static void endsEarlier() {
        says(21, "when a PLAN is there, each TRY, ahead of the RULES, bounds l of all not absent by what ends earlier");
        TimeResources x = of(1, 0, 3, false);
        x.interval(1, 0, 3, false);
        x.row(0, 0);
        x.row(0, 1);
        // 0 at 0; 1 from 1 to 3; 0 from 1 to 3.
        dueSolve(x, 400, 1, 7, 2);
        duePlan(x, 0, 1);
        TimeResources y = of(0, 0, 3, false);
        y.interval(1, 0, 5, false);
        y.before(0, 1, 2);
        // 0 at 0; 1 from 2 to 5; 0 from 1 to 3, where 1 cannot end earlier and is not TRIED.
        dueSolve(y, 400, 1, 8, 3);
        duePlan(y, 0, 2);
    }

    private static void aheadOfTheRules() {
        says(21, "ahead of the RULES, bounds l");
        TimeResources x = of(9, 0, 0, true);
        x.interval(1, 0, 9, false);
        x.interval(3, 0, 9, false);
        x.before(1, 2, 0);
        // 0 at 0; 1 at 0; 2 from 1 to 9; 1 from 1 to 8: all end at 9 at least.
        dueSolve(x, 19, 2, 19, 9);
        duePlan(x, 0, 0, 1);
        // 0 as absent, then 2 is at 5 or earlier, so that by RULE 1 the first is at 4 or earlier.
        // 1 at 0; 2 from 1 to 5; 1 from 1 to 4.
        dueSolve(x, 400, 1, 30, 4);
        duePlan(x, NONE, 0, 1);
        dueSolve(x, 29, 2, 29, 4);
    }

    private static void endsEarlierMakesAbsent() {
        says(21, "bounds l of all not absent: an open one is absent then");
        TimeResources x = of(1, 0, 1, true);
        x.interval(3, 0, 0, true);
        // 0 at 0; 1 at 0, as absent; 0 at 1, as absent, where 1 cannot end earlier and is not TRIED.
        dueSolve(x, 400, 1, 5, 0);
        duePlan(x, NONE, NONE);
        dueSolve(x, 4, 2, 4, 1);
        duePlan(x, 0, NONE);
        dueSolve(x, 2, 2, 2, 3);
        duePlan(x, 0, 0);
        TimeResources y = of(2, 0, 0, false);
        y.interval(0, 0, 2, true);
        y.interval(0, 2, 2, true);
        y.interval(1, 0, 9, true);
        y.before(2, 3, 0);
        // One that ends just with the PLAN is in it.
        due("solve(400)", y.solve(400), 1);
        duePlan(y, 0, 0, 2, NONE);
    }

    private static void answers() {
        says(21, "1: found; 2: found, but cut; CUT: cut with none. The TRY that would be one too many is not done.");
        TimeResources x = of(2, 0, 10, false);
        x.interval(2, 0, 10, false);
        dueSolve(x, 1, CUT, 1, NONE);
        duePlan(x, NONE, NONE);
        dueSolve(x, 2, 2, 2, 2);
        duePlan(x, 0, 0);
        dueSolve(x, 21, 2, 21, 2);
        dueSolve(x, 22, 1, 22, 2);
        dueSolve(x, 23, 1, 22, 2);
        duePlan(x, 0, 0);
        says(21, "2: it is the best by then");
        TimeResources y = of(1, 0, 0, true);
        y.interval(5, 0, 0, true);
        dueSolve(y, 1, CUT, 1, NONE);
        dueSolve(y, 2, 2, 2, 5);
        duePlan(y, 0, 0);
        dueSolve(y, 3, 2, 3, 1);
        duePlan(y, 0, NONE);
        dueSolve(y, 4, 1, 4, 0);
        duePlan(y, NONE, NONE);
    }

    /** What is taken at the start of 0 is added by 1, that starts behind it; only each TRY by itself fails. */
    private static TimeResources withoutPlan() {
        TimeResources x = of(1, 0, 3, false);
        x.interval(1, 0, 9, false);
        x.before(0, 1, 0);
        x.store(0, 0, 0, 9);
        x.event(0, 0, false, -1);
        x.event(0, 1, false, 1);
        return x;
    }

    private static void noneBehindTries() {
        says(21, "0: there is none; CUT: cut with none");
        TimeResources x = withoutPlan();
        due("narrow() does not see it", x.narrow(), 1);
        dueSolve(x, 400, 0, 4, NONE);
        duePlan(x, NONE, NONE);
        dueSolve(x, 4, 0, 4, NONE);
        dueSolve(x, 3, CUT, 3, NONE);
        dueSolve(x, 1, CUT, 1, NONE);
    }

    private static void failAtTheBeginning() {
        says(21, "At the beginning all RULES; a FAIL: 0.");
        TimeResources x = of(2, 0, 3, false);
        x.interval(2, 0, 4, false);
        x.before(0, 1, 2);
        dueSolve(x, 1, CUT, 1, NONE);
        x.before(0, 1, 3);
        dueSolve(x, 1, 0, 0, NONE);
        dueSolve(x, 400, 0, 0, NONE);
        says(21, "At the beginning all RULES, from what they narrow");
        TimeResources y = of(1, 0, 9, false);
        y.calendar(0, 0);
        y.pause(0, 0, 8);
        dueSolve(y, 400, 1, 2, 9);
        duePlan(y, 8);
    }

    private static void ranges() {
        says(21, "so many TRIES (1 .. 400) .. BAD: another number");
        TimeResources x = of(1, 0, 0, false);
        for (int tries : new int[] {0, -1, 401, Integer.MIN_VALUE, Integer.MAX_VALUE}) {
            due("solve(" + tries + ")", x.solve(tries), BAD);
        }
        due("solve(1)", x.solve(1), 1);
        due("solve(400)", x.solve(400), 1);
    }

    private static void fourHundred() {
        says(21, "behind so many TRIES (1 .. 400) it was cut");
        TimeResources x = of(1, 0, 100, false);
        x.interval(1, 0, 100, false);
        x.interval(1, 0, 100, false);
        x.interval(1, 0, 96, false);
        // One TRY for each start of each interval: 101 + 101 + 101 + 97.
        dueSolve(x, 400, 1, 400, 1);
        dueSolve(x, 399, 2, 399, 1);
        x.interval(1, 0, 0, false);
        dueSolve(x, 400, 2, 400, 1);
        duePlan(x, 0, 0, 0, 0, 0);
    }

    private static void boundsAreAsBefore() {
        says(21, "Bounds are as before.");
        for (int tries : new int[] {0, 1, 2, 400}) {
            TimeResources x = of(2, 1, 50, false);
            x.interval(2, 0, 50, false);
            x.interval(9, 0, 2, true);
            x.interval(2, 3, 9, true);
            x.before(0, 1, 0);
            x.before(0, 2, 0);
            x.fix(3, 3, 0);
            x.keep();
            x.narrow();
            x.back();
            x.solve(tries);
            dueBounds(x, 0, 1, 50, 1);
            dueBounds(x, 1, 0, 50, 1);
            dueBounds(x, 2, 0, 2, 2);
            dueBounds(x, 3, 3, 9, 0);
            due("told(1)", x.told(1), 2);
            due("told(2)", x.told(2), 3);
            x.fix(0, 0, 40);
            due("back()", x.back(), 4);
            dueBounds(x, 0, 1, 50, 1);
        }
        TimeResources none = withoutPlan();
        none.solve(400);
        dueBounds(none, 0, 0, 3, 1);
        dueBounds(none, 1, 0, 9, 1);
        TimeResources fails = of(2, 0, 3, false);
        fails.interval(2, 0, 4, false);
        fails.before(0, 1, 3);
        fails.solve(400);
        dueBounds(fails, 0, 0, 3, 1);
        dueBounds(fails, 1, 0, 4, 1);
    }

    private static void aWrongOneChangesNothing() {
        says(21, "BAD: another number, the PLAN stays");
        TimeResources x = of(2, 3, 6, false);
        x.solve(3);
        x.solve(0);
        x.solve(401);
        duePlan(x, 3);
        due("count(0)", x.count(0), 5);
        due("count(1)", x.count(1), 3);
        due("check()", x.check(), 0);
    }

    private static void theLatest() {
        says(21, "each solve() begins anew");
        TimeResources x = of(2, 3, 6, false);
        x.interval(2, 0, 9, true);
        // 0 at 3; 1 at 0, from 1 to 9, as absent; 0 from 4 to 6.
        dueSolve(x, 400, 1, 15, 5);
        x.fix(0, 0, 5);
        // A PLAN of before, that ends at 5, must not bound what is TRIED now.
        dueSolve(x, 400, 1, 13, 7);
        duePlan(x, 5, 0);
        x.fix(1, 3, 0);
        dueSolve(x, 400, 1, 2, 7);
        duePlan(x, 5, NONE);
    }

    private static void checkNone() {
        says(25, "NONE: no PLAN");
        TimeResources x = of(2, 0, 3, false);
        due("ahead of solve(), check()", x.check(), NONE);
        x.narrow();
        due("narrow() makes none, check()", x.check(), NONE);
        x.interval(2, 0, 3, false);
        x.solve(1);
        due("cut with none, check()", x.check(), NONE);
        x.solve(2);
        due("found, but cut, check()", x.check(), 0);
        x.before(0, 1, 30);
        x.solve(400);
        due("there is none, check()", x.check(), NONE);
        TimeResources empty = new TimeResources();
        empty.solve(1);
        due("a PLAN without an interval, check()", empty.check(), 0);
    }

    /** The PLAN: 0 from 2 to 5, 1 from 5 to 9, 2 absent, and 3, of no LENGTH, at 4. */
    private static TimeResources planned() {
        TimeResources x = new TimeResources();
        x.interval(3, 2, 2, false);
        x.interval(4, 5, 5, false);
        x.interval(4, 5, 5, true);
        x.interval(0, 4, 4, false);
        x.fix(2, 3, 0);
        x.solve(400);
        duePlan(x, 2, 5, NONE, 4);
        due("nothing is told, check()", x.check(), 0);
        return x;
    }

    private static void checkOrders() {
        says(25, "1");
        TimeResources x = planned();
        x.before(0, 1, 0);
        x.before(1, 0, -7);
        x.before(0, 3, -1);
        x.before(2, 0, 30);
        x.before(0, 2, 30);
        due("orders that just hold, or are of an absent one", x.check(), 0);
        x.before(0, 1, 1);
        due("one more", x.check(), 1);
        x = planned();
        x.before(1, 0, -6);
        due("one more, backwards", x.check(), 1);
    }

    private static void checkBreaks() {
        says(25, "2");
        TimeResources x = planned();
        x.calendar(0, 0);
        x.calendar(2, 1);
        x.calendar(3, 1);
        x.pause(0, 0, 2);
        x.pause(0, 5, 131);
        x.pause(1, 0, 131);
        due("breaks around it, in it without a LENGTH, or of an absent one", x.check(), 0);
        x.pause(0, 4, 5);
        due("the last time of it", x.check(), 2);
        x = planned();
        x.calendar(1, 1);
        x.pause(1, 4, 6);
        due("the first time of it", x.check(), 2);
        x.calendar(1, 0);
        due("another calendar", x.check(), 0);
        x.calendar(1, 1);
        x.calendar(1, -1);
        due("no calendar", x.check(), 0);
    }

    private static void checkCapacities() {
        says(25, "3");
        for (int r = 0; r < 3; r++) {
            TimeResources x = planned();
            x.need(r, 2, 20);
            x.need(r, 3, 20);
            due("an absent one, one of no LENGTH", x.check(), 0);
            x.capacity(r, 7);
            x.need(r, 0, 7);
            x.need(r, 1, 7);
            due("as much as there is, one behind the other", x.check(), 0);
            x.need(r, 1, 8);
            due("one more", x.check(), 3);
            x.need(r, 1, 0);
            due("it needs nothing", x.check(), 0);
        }
        TimeResources y = of(3, 2, 2, false);
        y.interval(3, 4, 4, false);
        y.solve(400);
        y.capacity(1, 7);
        y.need(1, 0, 3);
        y.need(1, 1, 4);
        due("both at 4", y.check(), 0);
        y.need(1, 0, 4);
        due("both at 4, one more", y.check(), 3);
        TimeResources last = of(30, 100, 100, false);
        last.solve(400);
        last.need(2, 0, 1);
        due("up to the last time", last.check(), 3);
        last.capacity(2, 1);
        due("up to the last time", last.check(), 0);
    }

    private static void checkRows() {
        says(25, "5");
        for (int k = 0; k < 2; k++) {
            TimeResources x = planned();
            x.row(k, 0);
            x.row(k, 1);
            x.row(k, 2);
            x.row(1 - k, 3);
            due("one ends when the other starts, an absent one beside", x.check(), 0);
            x.kind(1, 2);
            x.change(1 - k, 0, 2, 9);
            x.change(k, 2, 0, 9);
            due("a change that is not between them", x.check(), 0);
            x.change(k, 0, 2, 1);
            due("no time to change", x.check(), 5);
            x.change(k, 0, 2, 0);
            x.row(k, 3);
            due("in the middle, of no LENGTH", x.check(), 5);
        }
        TimeResources y = of(3, 5, 5, false);
        y.interval(3, 1, 1, false);
        y.row(0, 0);
        y.row(0, 1);
        y.kind(0, 3);
        y.solve(400);
        y.change(0, 0, 3, 1);
        due("the second is ahead, just time to change", y.check(), 0);
        y.change(0, 0, 3, 2);
        due("the second is ahead, no time to change", y.check(), 5);
    }

    private static void checkStores() {
        says(25, "8");
        for (int k = 0; k < 2; k++) {
            TimeResources x = planned();
            x.store(k, 5, 6, 7);
            due("a beginning below the least, without EVENTS", x.check(), 0);
            x.event(k, 0, false, 1);
            due("a beginning below the least", x.check(), 8);
            x.store(k, 6, 6, 7);
            due("a beginning that is the least", x.check(), 0);
            x.store(k, 7, 6, 8);
            due("up to the greatest", x.check(), 0);
            x.store(k, 7, 6, 7);
            due("above the greatest", x.check(), 8);
            x.store(k, 8, 6, 7);
            due("a beginning above the greatest", x.check(), 8);
            x.store(k, 5, 5, 6);
            x.event(k, 2, true, 50);
            due("an absent one adds nothing", x.check(), 0);
            x.event(k, 1, true, -2);
            due("below the least at the end", x.check(), 8);
            x.store(k, 5, 4, 6);
            due("the least at the end", x.check(), 0);
        }
    }

    private static void checkStoreTimes() {
        says(25, "8, at each time by itself");
        TimeResources x = planned();
        x.store(0, 0, 0, 3);
        x.event(0, 1, false, -3);
        x.event(0, 0, true, 3);
        due("added at 5 and taken at 5", x.check(), 0);
        TimeResources y = planned();
        y.store(0, 0, 0, 3);
        y.event(0, 1, false, -3);
        y.event(0, 1, true, 3);
        due("taken at 5 and added at 9", y.check(), 8);
        TimeResources z = planned();
        z.store(1, 3, 0, 3);
        z.event(1, 1, true, -3);
        z.event(1, 3, true, 3);
        due("added at 4, taken at 9", z.check(), 8);
        z.store(1, 0, 0, 3);
        due("added at 4, taken at 9, with room", z.check(), 0);
    }

    /** The PLAN: 0, 1 and 5 at 3, 2 at 4, while 3 and 4 are absent. */
    private static TimeResources plannedAlike() {
        TimeResources x = new TimeResources();
        for (int i = 0; i < 6; i++) {
            int start = i == 2 ? 4 : 3;
            x.interval(2, start, start, i == 3 || i == 4);
        }
        x.fix(3, 3, 0);
        x.fix(4, 3, 0);
        x.solve(400);
        duePlan(x, 3, 3, 4, NONE, NONE, 3);
        return x;
    }

    private static void checkChoices() {
        says(25, "9");
        TimeResources x = plannedAlike();
        x.option(3, 4);
        due("an absent master, an absent option", x.check(), 0);
        x.option(0, 1);
        due("a present one, at its start", x.check(), 0);
        x.option(0, 5);
        due("a second present one", x.check(), 9);
        TimeResources y = plannedAlike();
        y.option(0, 3);
        due("a present master, no present option", y.check(), 9);
        y.option(0, 1);
        due("a present one besides", y.check(), 0);
        y.option(0, 4);
        due("an absent one besides", y.check(), 0);
        TimeResources later = plannedAlike();
        later.option(0, 2);
        due("an option that starts later", later.check(), 9);
        TimeResources earlier = plannedAlike();
        earlier.option(2, 0);
        due("an option that starts earlier", earlier.check(), 9);
        TimeResources alone = plannedAlike();
        alone.option(3, 0);
        due("a present option of an absent master", alone.check(), 9);
    }

    private static void checkFirstThing() {
        says(25, "the RULE for the first thing that it breaks");
        TimeResources x = planned();
        x.interval(3, 2, 2, true);
        x.option(0, 4);
        due("9 alone", x.check(), 9);
        x.store(1, 1, 2, 3);
        x.event(1, 2, false, 1);
        due("8 and 9", x.check(), 8);
        x.row(1, 0);
        x.row(1, 3);
        due("5 and more", x.check(), 5);
        x.need(2, 1, 1);
        due("3 and more", x.check(), 3);
        x.calendar(1, 1);
        x.pause(1, 8, 9);
        due("2 and more", x.check(), 2);
        x.before(1, 0, 0);
        due("1 and more", x.check(), 1);
    }

    private static void checkWithoutRules() {
        says(25, "each thing by itself, without RULES");
        TimeResources x = new TimeResources();
        x.interval(2, 0, 9, true);
        x.interval(2, 0, 9, false);
        x.before(0, 1, 2);
        x.row(0, 0);
        x.row(0, 1);
        x.solve(400);
        duePlan(x, NONE, 0);
        x.fix(1, 0, 5);
        x.fix(0, 2, 0);
        due("bounds and PRESENCES are no matter", x.check(), 0);
        dueBounds(x, 0, 0, 9, 1);
        dueBounds(x, 1, 5, 9, 1);
        x.interval(9, 0, 0, false);
        x.row(0, 2);
        x.need(1, 2, 9);
        x.before(2, 1, 9);
        due("nor is one that came later", x.check(), 0);
    }
}
