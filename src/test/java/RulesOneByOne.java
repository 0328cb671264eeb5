/** The nine RULES, each by itself: what it narrows, whom it leaves out, when it fails, what it leaves alone. */
public final class RulesOneByOne {
    private static int wrong = 0;
    private static int rule = 0;
    private static TimeResources x;

    private static void due(String what, int got, int want) {
        if (got != want) {
            wrong++;
            System.out.println("rule " + rule + ": " + what + " answered " + got + ", due is " + want);
        }
    }

    public static void main(String[] args) {
        rule = 1;
        orders();
        ordersOfOpenOnes();
        rule = 2;
        breaks();
        rule = 3;
        capacities();
        capacitiesThatFail();
        rule = 4;
        work();
        workByTurns();
        rule = 5;
        pairs();
        pairsOfOpenOnes();
        rule = 6;
        edges();
        rule = 7;
        notFirstNotLast();
        rule = 8;
        stores();
        storesWithOpenOnes();
        rule = 9;
        choicesOfPresence();
        choicesThatFail();
        choicesOfStarts();
        rule = 0;
        rounds();
        System.out.println(wrong == 0 ? "all rules are as due" : wrong + " answers are not as due");
        if (wrong != 0) {
            System.exit(1);
        }
    }

    private static void fresh() {
        x = new TimeResources();
    }

    private static void present(int length, int from, int to) {
        x.interval(length, from, to, false);
    }

    private static void open(int length, int from, int to) {
        x.interval(length, from, to, true);
    }

    private static void bounds(String when, int i, int first, int last, int presence) {
        due(when + ", e of " + i, x.about(i, 0), first);
        due(when + ", l of " + i, x.about(i, 1), last);
        due(when + ", PRESENCE of " + i, x.about(i, 2), presence);
    }

    private static void holds(String when) {
        due(when + ", narrow()", x.narrow(), 1);
        due(when + ", told(0)", x.told(0), 0);
    }

    private static void fails(String when) {
        due(when + ", narrow()", x.narrow(), 0);
        due(when + ", told(0)", x.told(0), rule);
        due(when + ", told(2)", x.told(2), 0);
    }

    private static void orders() {
        fresh();
        present(3, 2, 50);
        present(4, 0, 20);
        x.before(0, 1, 5);
        holds("a lag");
        bounds("a lag", 0, 2, 12, 1);
        bounds("a lag", 1, 10, 20, 1);
        fresh();
        present(3, 2, 50);
        present(4, 0, 20);
        x.before(0, 1, -5);
        holds("a lag below 0");
        bounds("a lag below 0", 0, 2, 22, 1);
        bounds("a lag below 0", 1, 0, 20, 1);
        fresh();
        present(3, 2, 50);
        present(4, 0, 10);
        x.before(0, 1, 5);
        holds("just room enough");
        x.before(0, 1, 6);
        fails("no room");
        bounds("no room", 1, 10, 10, 1);
    }

    private static void ordersOfOpenOnes() {
        fresh();
        open(3, 2, 50);
        present(4, 0, 20);
        x.before(0, 1, 0);
        holds("the first is open");
        bounds("the first is open", 0, 2, 17, 2);
        bounds("the first is open", 1, 0, 20, 1);
        fresh();
        present(3, 2, 50);
        open(4, 0, 20);
        x.before(0, 1, 0);
        holds("the second is open");
        bounds("the second is open", 0, 2, 50, 1);
        bounds("the second is open", 1, 5, 20, 2);
        fresh();
        open(3, 2, 50);
        open(4, 0, 1);
        x.before(0, 1, 0);
        holds("both are open");
        bounds("both are open", 0, 2, 50, 2);
        bounds("both are open", 1, 0, 1, 2);
        x.fix(0, 2, 0);
        holds("the second cannot be");
        bounds("the second cannot be", 1, 0, 1, 0);
        bounds("the second cannot be", 0, 2, 50, 1);
    }

    private static void breaks() {
        fresh();
        present(4, 0, 20);
        present(0, 3, 3);
        open(5, 3, 13);
        open(3, 0, 20);
        x.pause(0, 18, 22);
        x.pause(0, 2, 5);
        x.pause(0, 9, 14);
        x.calendar(0, 0);
        x.calendar(1, 0);
        x.calendar(2, 0);
        x.calendar(3, 1);
        holds("breaks");
        bounds("from a break to a break", 0, 5, 14, 1);
        bounds("no LENGTH", 1, 3, 3, 1);
        bounds("too long for what is between", 2, 3, 13, 0);
        bounds("another calendar", 3, 0, 20, 2);
        x.fix(0, 1, 13);
        holds("an earlier l");
        bounds("an earlier l", 0, 5, 5, 1);
        x.pause(0, 5, 6);
        fails("a break more");
        bounds("a break more", 0, 5, 5, 1);
        x.calendar(0, -1);
        holds("no calendar");
    }

    private static void capacities() {
        fresh();
        x.capacity(1, 3);
        present(4, 5, 6);
        present(3, 4, 20);
        present(3, 0, 7);
        open(3, 4, 7);
        present(3, 0, 7);
        open(2, 0, 99);
        x.need(1, 0, 2);
        x.need(1, 1, 2);
        x.need(1, 2, 2);
        x.need(1, 3, 2);
        x.need(1, 4, 1);
        x.need(1, 5, 4);
        holds("one takes 2 of 3 from 6 to 9");
        bounds("its own part is no matter", 0, 5, 6, 1);
        bounds("behind it", 1, 9, 20, 1);
        bounds("ahead of it", 2, 0, 3, 1);
        bounds("an open one without room", 3, 4, 7, 0);
        bounds("beside it", 4, 0, 7, 1);
        bounds("more than there is", 5, 0, 99, 0);
    }

    private static void capacitiesThatFail() {
        fresh();
        x.capacity(2, 2);
        present(4, 5, 6);
        present(4, 5, 6);
        x.need(2, 0, 1);
        x.need(2, 1, 1);
        holds("as much as there is");
        x.need(2, 1, 2);
        fails("more than there is");
        due("THE USE", x.use(2, 6), 3);
        fresh();
        present(1, 0, 99);
        x.need(0, 0, 1);
        fails("no capacity, and no time that is sure");
        fresh();
        present(0, 5, 5);
        x.need(0, 0, 20);
        holds("no LENGTH needs nothing");
        bounds("no LENGTH", 0, 5, 5, 1);
    }

    private static void work() {
        fresh();
        x.capacity(0, 1);
        present(3, 0, 3);
        present(3, 0, 3);
        present(2, 0, 20);
        open(1, 1, 4);
        for (int i = 0; i < 4; i++) {
            x.need(0, i, 1);
        }
        holds("0 to 6 is full");
        bounds("behind the work", 2, 6, 20, 1);
        bounds("an open one in it", 3, 1, 4, 0);
        bounds("the work itself", 0, 0, 3, 1);
        fresh();
        x.capacity(0, 1);
        present(3, 10, 13);
        present(3, 10, 13);
        present(2, 0, 12);
        for (int i = 0; i < 3; i++) {
            x.need(0, i, 1);
        }
        holds("10 to 16 is full");
        bounds("ahead of the work", 2, 0, 8, 1);
        present(1, 10, 15);
        x.need(0, 3, 1);
        fails("more work than room");
        fresh();
        x.capacity(0, 3);
        present(6, 0, 6);
        present(4, 0, 99);
        x.need(0, 0, 2);
        x.need(0, 1, 2);
        holds("24 less 12 is room for 2 times 4");
        bounds("24 less 12", 1, 0, 99, 1);
        present(6, 0, 6);
        x.need(0, 2, 2);
        holds("36 less 24 is room for 2 times 4");
        bounds("36 less 24", 1, 0, 99, 1);
        present(4, 0, 8);
        x.need(0, 3, 2);
        holds("36 less 32 is room for 2 times 2");
        bounds("36 less 32", 1, 10, 99, 1);
    }

    /** The others' work is counted with bounds as they are by then. */
    private static void workByTurns() {
        fresh();
        x.capacity(0, 1);
        present(2, 0, 2);
        present(2, 0, 2);
        present(2, 0, 6);
        present(2, 0, 6);
        for (int i = 0; i < 4; i++) {
            x.need(0, i, 1);
        }
        holds("two pairs");
        bounds("the first pair", 0, 0, 2, 1);
        bounds("the second pair", 2, 4, 6, 1);
        bounds("the second pair", 3, 4, 6, 1);
        due("ROUNDS", x.told(1), 2);
        due("others", x.told(2), 2);
    }

    private static void pairs() {
        fresh();
        present(3, 0, 0);
        present(2, 1, 9);
        x.row(0, 0);
        x.row(1, 1);
        holds("not the same row");
        bounds("not the same row", 1, 1, 9, 1);
        x.row(0, 1);
        holds("one ahead");
        bounds("one ahead", 1, 3, 9, 1);
        x.kind(1, 2);
        x.change(0, 0, 2, 4);
        x.change(0, 2, 0, 20);
        x.change(1, 0, 2, 20);
        holds("THE CHANGE");
        bounds("THE CHANGE", 1, 7, 9, 1);
        x.change(0, 0, 2, 7);
        fails("too long a change");
        fresh();
        present(2, 0, 9);
        present(3, 10, 10);
        x.row(1, 0);
        x.row(1, 1);
        x.change(1, 0, 0, 1);
        holds("l of the first");
        bounds("l of the first", 0, 0, 7, 1);
    }

    private static void pairsOfOpenOnes() {
        fresh();
        open(5, 0, 3);
        present(5, 1, 3);
        open(5, 0, 3);
        for (int i = 0; i < 3; i++) {
            x.row(0, i);
        }
        holds("no room for an open one");
        bounds("the first is open", 0, 0, 3, 0);
        bounds("the present one", 1, 1, 3, 1);
        bounds("the last is open", 2, 0, 3, 0);
        fresh();
        open(5, 0, 3);
        open(5, 0, 3);
        x.row(0, 0);
        x.row(0, 1);
        holds("two open ones");
        bounds("two open ones", 0, 0, 3, 2);
        bounds("two open ones", 1, 0, 3, 2);
        fresh();
        present(5, 4, 6);
        open(3, 4, 20);
        open(3, 0, 7);
        for (int i = 0; i < 3; i++) {
            x.row(0, i);
        }
        holds("open ones around");
        bounds("an open one does not push", 0, 4, 6, 1);
        bounds("an open one is pushed", 1, 9, 20, 2);
        bounds("an open one is held", 2, 0, 3, 2);
    }

    private static void edges() {
        fresh();
        present(3, 0, 2);
        present(2, 0, 3);
        present(2, 0, 20);
        open(1, 2, 20);
        for (int i = 0; i < 4; i++) {
            x.row(0, i);
        }
        holds("0 to 5 is full");
        bounds("behind the SET", 2, 5, 20, 1);
        bounds("an open one behind it", 3, 5, 20, 2);
        bounds("in the SET", 0, 0, 2, 1);
        fresh();
        present(3, 10, 12);
        present(2, 10, 13);
        present(2, 0, 13);
        for (int i = 0; i < 3; i++) {
            x.row(1, i);
        }
        holds("10 to 15 is full");
        bounds("ahead of the SET", 2, 0, 8, 1);
        fresh();
        present(5, 0, 5);
        present(5, 0, 5);
        present(1, 0, 9);
        x.row(0, 0);
        x.row(0, 1);
        holds("just room");
        x.row(0, 2);
        fails("no room");
        bounds("no room", 2, 0, 9, 1);
    }

    private static void notFirstNotLast() {
        fresh();
        present(3, 0, 7);
        present(3, 0, 7);
        present(3, 2, 20);
        for (int i = 0; i < 3; i++) {
            x.row(0, i);
        }
        holds("it cannot be first");
        bounds("it cannot be first", 2, 3, 20, 1);
        due("ROUNDS", x.told(1), 2);
        due("others", x.told(2), 1);
        fresh();
        present(3, 5, 12);
        present(3, 5, 12);
        open(3, 0, 10);
        for (int i = 0; i < 3; i++) {
            x.row(0, i);
        }
        holds("it cannot be last");
        bounds("it cannot be last", 2, 0, 9, 2);
        due("others", x.told(2), 1);
    }

    private static void stores() {
        fresh();
        present(2, 0, 4);
        present(3, 3, 9);
        x.store(0, 0, 0, 5);
        x.event(0, 0, true, -2);
        x.event(0, 1, false, 3);
        holds("added by 6, when it is taken");
        x.fix(1, 0, 6);
        holds("added just when it is taken");
        x.fix(1, 0, 7);
        fails("added too late");
        x.store(0, 2, 0, 5);
        holds("enough at the beginning");
        fresh();
        present(2, 0, 4);
        present(3, 3, 9);
        x.store(1, 0, -5, 2);
        x.event(1, 0, true, 3);
        x.event(1, 1, false, -1);
        holds("taken by 6, when it is added");
        x.fix(1, 0, 7);
        fails("taken too late");
        fresh();
        present(1, 0, 9);
        x.store(0, 5, 6, 7);
        holds("no EVENTS");
        x.event(0, 0, false, 1);
        fails("the beginning is below the least");
        x.store(0, 8, 6, 7);
        fails("the beginning is above the greatest");
        x.store(0, 6, 6, 7);
        holds("the beginning is the least");
    }

    private static void storesWithOpenOnes() {
        fresh();
        present(2, 0, 4);
        open(3, 3, 9);
        x.store(0, 0, 0, 5);
        x.event(0, 0, false, -2);
        x.event(0, 1, false, 3);
        holds("an open one may add");
        x.fix(1, 3, 0);
        fails("an absent one adds nothing");
        fresh();
        open(2, 4, 4);
        x.store(0, 0, 0, 5);
        x.event(0, 0, false, -2);
        holds("an open one may not take");
        bounds("an open one", 0, 4, 4, 2);
        x.fix(0, 2, 0);
        fails("a present one takes");
    }

    private static void choicesOfPresence() {
        fresh();
        open(2, 0, 9);
        open(2, 0, 9);
        open(2, 0, 9);
        x.option(0, 1);
        x.option(0, 2);
        holds("all are open");
        due("all are open", x.count(6), 3);
        x.keep();
        x.fix(1, 3, 0);
        x.fix(2, 3, 0);
        holds("no option is left");
        bounds("no option is left", 0, 0, 9, 0);
        x.back();
        x.fix(0, 3, 0);
        holds("the master is absent");
        bounds("the master is absent", 1, 0, 9, 0);
        bounds("the master is absent", 2, 0, 9, 0);
        x.back();
        x.fix(2, 2, 0);
        holds("an option is present");
        bounds("an option is present, the master", 0, 0, 9, 1);
        bounds("an option is present, the other", 1, 0, 9, 0);
        x.back();
        x.fix(0, 2, 0);
        holds("the master is present");
        due("the master is present, open ones", x.count(6), 2);
        x.fix(1, 3, 0);
        holds("one option is left");
        bounds("one option is left", 2, 0, 9, 1);
        x.back();
        x.fix(1, 3, 0);
        holds("one option is left to an open master");
        bounds("one option is left to an open master", 0, 0, 9, 2);
        bounds("one option is left to an open master", 2, 0, 9, 2);
    }

    private static void choicesThatFail() {
        fresh();
        present(2, 0, 9);
        open(2, 0, 9);
        open(2, 0, 9);
        x.option(0, 1);
        x.option(0, 2);
        x.keep();
        x.fix(1, 3, 0);
        x.fix(2, 3, 0);
        fails("a present master without an option");
        x.back();
        x.fix(1, 2, 0);
        x.fix(2, 2, 0);
        fails("two options are present");
        fresh();
        open(2, 0, 9);
        present(2, 0, 9);
        x.option(0, 1);
        x.fix(0, 3, 0);
        fails("an option of an absent master is present");
        fresh();
        present(2, 0, 3);
        present(2, 4, 9);
        x.option(0, 1);
        fails("an option that cannot start with its master");
    }

    private static void choicesOfStarts() {
        fresh();
        present(2, 0, 30);
        open(2, 3, 8);
        open(2, 6, 40);
        x.option(0, 1);
        x.option(0, 2);
        holds("the least e, the greatest l");
        bounds("the master", 0, 3, 30, 1);
        bounds("the first option", 1, 3, 8, 2);
        bounds("the second option", 2, 6, 30, 2);
        x.fix(0, 0, 9);
        holds("the master is later");
        bounds("the first option is too early", 1, 3, 8, 0);
        bounds("the second option", 2, 9, 30, 1);
        bounds("the master", 0, 9, 30, 1);
        fresh();
        open(2, 0, 3);
        open(2, 4, 9);
        x.option(0, 1);
        holds("a master that cannot be");
        bounds("the master", 0, 0, 3, 0);
        bounds("the option", 1, 4, 9, 0);
        due("ROUNDS", x.told(1), 3);
    }

    /** Bounds go round: what a later rule or order narrows, an earlier one sees in the next ROUND alone. */
    private static void rounds() {
        fresh();
        present(1, 0, 50);
        present(1, 0, 50);
        present(1, 0, 50);
        x.before(1, 2, 0);
        x.before(0, 1, 0);
        holds("orders told backwards");
        due("ROUNDS of orders told backwards", x.told(1), 3);
        bounds("orders told backwards", 2, 2, 50, 1);
        bounds("orders told backwards", 0, 0, 48, 1);
        fresh();
        present(1, 0, 50);
        present(1, 0, 50);
        present(1, 0, 50);
        x.before(0, 1, 0);
        x.before(1, 2, 0);
        holds("orders told forwards");
        due("ROUNDS of orders told forwards", x.told(1), 3);
        due("others", x.told(2), 4);
    }
}
