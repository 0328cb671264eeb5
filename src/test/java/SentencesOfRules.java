/**
 * Each sentence of the document's Terms that names a boundary, RULE by RULE: just inside it, just outside
 * it, what is a FAIL, what is left out when it is absent, and when a RULE does nothing.
 */
public final class SentencesOfRules {
    private static String sentence = "";
    private static int rule = 0;
    private static int wrong = 0;
    private static TimeResources x;
    /** Of a choice: which interval is the master; the two others are its options. */
    private static int master = 0;
    private static int first = 1;
    private static int second = 2;

    private static void says(String words) {
        sentence = (rule == 0 ? "terms" : "rule " + rule) + ", '" + words + "': ";
    }

    private static void due(String what, int got, int want) {
        if (got != want) {
            wrong++;
            System.out.println(sentence + what + " answered " + got + ", due is " + want);
        }
    }

    public static void main(String[] args) {
        terms();
        rule = 1;
        orders();
        rule = 2;
        breaks();
        rule = 3;
        capacities();
        rule = 4;
        work();
        rule = 5;
        pairs();
        rule = 6;
        edges();
        rule = 7;
        notFirstNotLast();
        rule = 8;
        stores();
        rule = 9;
        choices();
        System.out.println(wrong == 0 ? "all sentences hold" : wrong + " answers are not as due");
        if (wrong != 0) {
            System.exit(1);
        }
    }

    private static void fresh() {
        x = new TimeResources();
    }

    private static int present(int length, int from, int to) {
        return x.interval(length, from, to, false);
    }

    private static int open(int length, int from, int to) {
        return x.interval(length, from, to, true);
    }

    private static int absent(int length, int from, int to) {
        int i = x.interval(length, from, to, true);
        x.fix(i, 3, 0);
        return i;
    }

    /** An interval of a PRESENCE. */
    private static int any(int presence, int length, int from, int to) {
        if (presence == 0) {
            return absent(length, from, to);
        }
        return presence == 1 ? present(length, from, to) : open(length, from, to);
    }

    private static void dueBounds(String when, int i, int first, int last, int presence) {
        due(when + ", e of " + i, x.about(i, 0), first);
        due(when + ", l of " + i, x.about(i, 1), last);
        due(when + ", PRESENCE of " + i, x.about(i, 2), presence);
    }

    /** narrow() holds, and so many of all e, l, PRESENCES are others. */
    private static void holds(String when, int others) {
        due(when + ", narrow()", x.narrow(), 1);
        due(when + ", told(0)", x.told(0), 0);
        due(when + ", told(2)", x.told(2), others);
    }

    private static void changesNothing(String when) {
        holds(when, 0);
        due(when + ", told(1)", x.told(1), 1);
    }

    private static void fails(String when) {
        due(when + ", narrow()", x.narrow(), 0);
        due(when + ", told(0)", x.told(0), rule);
        due(when + ", told(2)", x.told(2), 0);
    }

    // ---- Terms

    private static void terms() {
        eAboveL();
        lBelowE();
        inThisOrder();
        roundsGoOn();
        risingNumbers();
    }

    private static void eAboveL() {
        rule = 1;
        says("when e would be above l: an open one is absent (e and l stay as they were), a present one is a FAIL");
        for (int presence = 1; presence <= 2; presence++) {
            fresh();
            present(2, 3, 3);
            any(presence, 1, 0, 7);
            x.before(0, 1, 2);
            holds("e is just l", 1);
            dueBounds("e is just l", 1, 7, 7, presence);
        }
        fresh();
        present(2, 3, 3);
        open(1, 0, 6);
        x.before(0, 1, 2);
        holds("an open one's e is above l", 1);
        dueBounds("an open one's e is above l", 1, 0, 6, 0);
        fresh();
        present(2, 3, 3);
        present(1, 0, 6);
        x.before(0, 1, 2);
        fails("a present one's e is above l");
        dueBounds("a present one's e is above l", 1, 0, 6, 1);
        rule = 0;
    }

    private static void lBelowE() {
        says("when e would be above l, by an l that falls");
        for (int presence = 1; presence <= 2; presence++) {
            rule = 1;
            fresh();
            any(presence, 2, 4, 20);
            present(1, 6, 6);
            x.before(0, 1, 0);
            holds("l is just e", 1);
            dueBounds("l is just e", 0, 4, 4, presence);
        }
        fresh();
        open(2, 4, 20);
        present(1, 5, 5);
        x.before(0, 1, 0);
        holds("an open one's l is below e", 1);
        dueBounds("an open one's l is below e", 0, 4, 20, 0);
        rule = 9;
        fresh();
        present(2, 5, 9);
        open(2, 0, 5);
        open(2, 0, 3);
        x.option(0, 1);
        x.option(0, 2);
        holds("a present one's l is just e", 4);
        dueBounds("a present one's l is just e", 0, 5, 5, 1);
        fresh();
        present(2, 5, 9);
        open(2, 0, 4);
        open(2, 0, 3);
        x.option(0, 1);
        x.option(0, 2);
        fails("a present one's l is below e");
        dueBounds("a present one's l is below e", 0, 5, 9, 1);
        rule = 0;
    }

    private static void inThisOrder() {
        says("THE RULES, in this order; a FAIL ends all");
        fresh();
        for (int i = 0; i < 3; i++) {
            present(1, 0, 50);
        }
        for (int i = 3; i < 6; i++) {
            present(3, 0, 5);
        }
        present(5, 0, 3);
        present(5, 0, 3);
        x.option(0, 1);
        x.option(0, 2);
        rule = 9;
        fails("two options are present");
        x.store(1, 5, 6, 7);
        x.event(1, 0, false, 1);
        rule = 8;
        fails("a store, too");
        for (int i = 3; i < 6; i++) {
            x.row(1, i);
        }
        rule = 6;
        fails("9 in 8, too");
        x.row(0, 6);
        x.row(0, 7);
        rule = 5;
        fails("a pair, too");
        x.capacity(0, 1);
        for (int i = 3; i < 6; i++) {
            x.need(0, i, 1);
        }
        rule = 4;
        fails("work, too");
        x.need(1, 6, 1);
        rule = 3;
        fails("a capacity, too");
        x.calendar(7, 1);
        x.pause(1, 0, 131);
        rule = 2;
        fails("a break, too");
        x.before(6, 7, 0);
        rule = 1;
        fails("an order, too");
        due("it ends in ROUND", x.told(1), 1);
        rule = 0;
    }

    private static void roundsGoOn() {
        says("ROUNDS go on till one changes nothing");
        fresh();
        changesNothing("no interval");
        present(3, 0, 50);
        open(3, 0, 50);
        absent(3, 0, 50);
        changesNothing("nothing is told");
        fresh();
        for (int i = 0; i < 10; i++) {
            present(1, 0, 10 * i);
        }
        for (int i = 8; i >= 0; i--) {
            x.before(i, i + 1, 0);
        }
        holds("a chain told backwards", 9);
        due("a chain told backwards, ROUNDS", x.told(1), 10);
        for (int i = 0; i < 10; i++) {
            dueBounds("a chain told backwards", i, i, 10 * i, 1);
        }
    }

    private static void risingNumbers() {
        says("each goes over what it is for by rising numbers, with bounds as they are by then");
        fresh();
        for (int i = 0; i < 10; i++) {
            present(1, 0, 10 * i);
        }
        for (int i = 0; i < 9; i++) {
            x.before(i, i + 1, 0);
        }
        holds("a chain told forwards", 9);
        due("a chain told forwards, ROUNDS", x.told(1), 2);
        // In one row, each but the first can only be behind all before it.
        for (int turn = 0; turn < 2; turn++) {
            fresh();
            for (int i = 0; i < 4; i++) {
                int k = turn == 0 ? i : 3 - i;
                present(4, 0, 5 * k);
            }
            for (int i = 0; i < 4; i++) {
                x.row(0, i);
            }
            due("pairs in a row, narrow()", x.narrow(), 1);
            for (int i = 0; i < 4; i++) {
                int k = turn == 0 ? i : 3 - i;
                due("pairs in a row, e of " + i, x.about(i, 0), 4 * k);
            }
        }
        masters();
        risingResources();
        risingRows();
        risingIntervals();
        risingWindows();
        risingPairs();
    }

    /** One resource puts 1 at 5 or later, the other then 2 at 8 or later: in one ROUND if it comes behind. */
    private static void risingResources() {
        for (int turn = 0; turn <= 1; turn++) {
            fresh();
            present(5, 0, 0);
            present(3, 0, 6);
            present(2, 5, 20);
            int one = turn == 0 ? 0 : 2;
            int other = 1;
            x.capacity(one, 1);
            x.need(one, 0, 1);
            x.need(one, 1, 1);
            x.capacity(other, 3);
            x.need(other, 1, 2);
            x.need(other, 2, 2);
            holds("resources", 2);
            due("resources, ROUNDS", x.told(1), turn == 0 ? 2 : 3);
            dueBounds("resources", 1, 5, 6, 1);
            dueBounds("resources", 2, 8, 20, 1);
        }
    }

    /** One row puts 1 at 5 or later, the other then behind 2: in one ROUND if it comes behind. */
    private static void risingRows() {
        for (int turn = 0; turn <= 1; turn++) {
            fresh();
            present(1, 0, 0);
            present(1, 0, 9);
            present(1, 3, 9);
            x.row(turn, 0);
            x.row(turn, 1);
            x.row(1 - turn, 1);
            x.row(1 - turn, 2);
            x.change(0, 0, 0, 4);
            x.change(1, 0, 0, 4);
            holds("rows", 2);
            due("rows, ROUNDS", x.told(1), turn == 0 ? 2 : 3);
            dueBounds("rows", 1, 8, 9, 1);
            dueBounds("rows", 2, 3, 4, 1);
        }
    }

    /** RULE 3 narrows the one of LENGTH 2 by the other, and the other by that only if its turn is later. */
    private static void risingIntervals() {
        for (int turn = 0; turn <= 1; turn++) {
            fresh();
            x.capacity(0, 2);
            int longer = turn;
            if (turn == 0) {
                present(3, 0, 2);
                present(2, 0, 2);
            } else {
                present(2, 0, 2);
                present(3, 0, 2);
            }
            x.need(0, longer, 2);
            x.need(0, 1 - longer, 1);
            holds("intervals of a resource", 2);
            due("intervals of a resource, ROUNDS", x.told(1), turn == 0 ? 3 : 2);
            dueBounds("the longer one", longer, 2, 2, 1);
            dueBounds("the shorter one", 1 - longer, 0, 0, 1);
        }
    }

    /** RULE 4 raises e of the longer one from 0 to 2; only if its turn as a is later, 2 is an a in this ROUND. */
    private static void risingWindows() {
        for (int turn = 0; turn <= 1; turn++) {
            fresh();
            x.capacity(0, 1);
            int shorter = turn;
            if (turn == 0) {
                present(2, 0, 2);
                present(3, 0, 3);
            } else {
                present(3, 0, 3);
                present(2, 0, 2);
            }
            needAll(0, 1);
            holds("a of work", 2);
            due("a of work, ROUNDS", x.told(1), turn == 0 ? 2 : 3);
            dueBounds("the shorter one", shorter, 0, 1, 1);
            dueBounds("the longer one", 1 - shorter, 2, 3, 1);
        }
    }

    /** The one at 0 pushes both others to 1, where they have no room: a pair is looked at behind that, or ahead. */
    private static void risingPairs() {
        fresh();
        present(1, 0, 0);
        present(1, 0, 2);
        present(2, 0, 1);
        allInRow(0);
        rule = 5;
        fails("pairs, the one at 0 first");
        fresh();
        present(1, 0, 2);
        present(2, 0, 1);
        present(1, 0, 0);
        allInRow(0);
        rule = 6;
        fails("pairs, the one at 0 last");
        rule = 0;
    }

    private static void masters() {
        fresh();
        for (int i = 0; i < 4; i++) {
            open(1, 0, 9);
        }
        x.option(0, 1);
        x.option(2, 3);
        x.before(2, 1, 0);
        x.fix(3, 2, 0);
        // Master 2 is present by RULE 9, which RULE 1 sees in ROUND 2, and RULE 9 for master 0 then.
        holds("masters", 3);
        due("masters, ROUNDS", x.told(1), 3);
        dueBounds("the second master", 2, 0, 9, 1);
        dueBounds("the first one's option", 1, 1, 9, 2);
        dueBounds("the first one", 0, 1, 9, 2);
    }

    // ---- RULE 1

    private static void orders() {
        ordersForward();
        ordersBackward();
        ordersOfAbsentOnes();
        ordersThen();
        ordersFarAway();
    }

    private static void ordersForward() {
        says("if a is present and b not absent: e of b is at least a's earliest end and lag");
        for (int lag = -2; lag <= 2; lag += 2) {
            for (int presence = 1; presence <= 2; presence++) {
                fresh();
                present(3, 2, 2);
                any(presence, 1, 5 + lag, 50);
                x.before(0, 1, lag);
                changesNothing("e is just that");
                fresh();
                present(3, 2, 2);
                any(presence, 1, 4 + lag, 50);
                x.before(0, 1, lag);
                holds("e is one below", 1);
                dueBounds("e is one below", 1, 5 + lag, 50, presence);
            }
        }
        fresh();
        open(3, 2, 2);
        present(1, 0, 50);
        x.before(0, 1, 0);
        changesNothing("a is open");
        fresh();
        open(3, 2, 2);
        open(1, 0, 50);
        x.before(0, 1, 0);
        changesNothing("both are open");
    }

    private static void ordersBackward() {
        says("Then, if b is present and a not absent: l of a is at most l of b, less lag, less p of a");
        for (int lag = -2; lag <= 2; lag += 2) {
            for (int presence = 1; presence <= 2; presence++) {
                fresh();
                any(presence, 3, 0, 7 - lag);
                present(1, 10, 10);
                x.before(0, 1, lag);
                changesNothing("l is just that");
                fresh();
                any(presence, 3, 0, 8 - lag);
                present(1, 10, 10);
                x.before(0, 1, lag);
                holds("l is one above", 1);
                dueBounds("l is one above", 0, 0, 7 - lag, presence);
            }
        }
        fresh();
        present(3, 0, 50);
        open(1, 10, 10);
        x.before(0, 1, 0);
        changesNothing("b is open");
    }

    private static void ordersOfAbsentOnes() {
        says("absent ones count nowhere");
        for (int presence = 0; presence <= 2; presence++) {
            fresh();
            any(presence, 3, 5, 50);
            absent(1, 0, 4);
            x.before(0, 1, 0);
            changesNothing("b is absent");
            dueBounds("b is absent", 0, 5, 50, presence);
            fresh();
            absent(3, 5, 50);
            any(presence, 1, 0, 4);
            x.before(0, 1, 0);
            changesNothing("a is absent");
            dueBounds("a is absent", 1, 0, 4, presence);
        }
    }

    private static void ordersThen() {
        says("the first part makes b absent, so the second does not narrow a");
        fresh();
        present(3, 5, 50);
        open(1, 0, 7);
        x.before(0, 1, 0);
        holds("b is absent then", 1);
        dueBounds("b is absent then", 0, 5, 50, 1);
        dueBounds("b is absent then", 1, 0, 7, 0);
        says("the order holds one way only");
        fresh();
        present(3, 0, 50);
        present(3, 0, 53);
        x.before(1, 0, 0);
        holds("b, a", 2);
        dueBounds("b, a", 0, 3, 50, 1);
        dueBounds("b, a", 1, 0, 47, 1);
    }

    private static void ordersFarAway() {
        says("bounds that no start can have");
        fresh();
        present(0, 0, 100);
        present(30, 0, 100);
        x.before(0, 1, -30);
        x.before(1, 0, -30);
        changesNothing("lags of -30");
        fresh();
        present(30, 100, 100);
        open(30, 100, 100);
        x.before(0, 1, 30);
        holds("an earliest end and lag of 160", 1);
        dueBounds("an earliest end and lag of 160", 1, 100, 100, 0);
        fresh();
        open(30, 0, 0);
        present(30, 0, 0);
        x.before(0, 1, 30);
        holds("an l of -60", 1);
        dueBounds("an l of -60", 0, 0, 0, 0);
        fresh();
        present(30, 0, 0);
        present(30, 60, 60);
        x.before(0, 1, 30);
        changesNothing("just 60 apart");
    }

    // ---- RULE 2

    private static void breaks() {
        breaksAtE();
        breaksAtL();
        breaksThatMeetNothing();
        breaksWithoutRoom();
        breaksOneAfterAnother();
        breaksAtTheEnds();
    }

    private static void withCalendar(int i) {
        x.calendar(i, 1);
        x.pause(1, 10, 14);
    }

    private static void breaksAtE() {
        says("e is the least start from e on with which it meets none of its breaks");
        for (int presence = 1; presence <= 2; presence++) {
            for (int from = 5; from <= 15; from++) {
                fresh();
                any(presence, 3, from, 50);
                withCalendar(0);
                boolean meets = from > 7 && from < 14;
                holds("a break from 10 to 14, e " + from, meets ? 1 : 0);
                dueBounds("a break from 10 to 14, e " + from, 0, meets ? 14 : from, 50, presence);
            }
        }
    }

    private static void breaksAtL() {
        says("then l the greatest from l downwards");
        for (int presence = 1; presence <= 2; presence++) {
            for (int to = 5; to <= 15; to++) {
                fresh();
                any(presence, 3, 0, to);
                withCalendar(0);
                boolean meets = to > 7 && to < 14;
                holds("a break from 10 to 14, l " + to, meets ? 1 : 0);
                dueBounds("a break from 10 to 14, l " + to, 0, 0, meets ? 7 : to, presence);
            }
        }
    }

    private static void breaksThatMeetNothing() {
        says("for each interval with a calendar and p above 0");
        fresh();
        present(0, 11, 12);
        withCalendar(0);
        changesNothing("p is 0");
        fresh();
        present(1, 11, 14);
        withCalendar(0);
        holds("p is 1", 1);
        dueBounds("p is 1", 0, 14, 14, 1);
        fresh();
        present(3, 11, 12);
        withCalendar(0);
        x.calendar(0, -1);
        changesNothing("no calendar");
        x.calendar(0, 0);
        changesNothing("a calendar without a break");
        x.calendar(0, 1);
        fails("the calendar");
        fresh();
        absent(3, 11, 12);
        withCalendar(0);
        changesNothing("an absent one");
        fresh();
        present(3, 0, 50);
        withCalendar(0);
        changesNothing("a break between e and l");
    }

    private static void breaksWithoutRoom() {
        says("no start meets none: an open one is absent, a present one is a FAIL");
        fresh();
        present(3, 8, 13);
        open(3, 8, 13);
        open(3, 8, 14);
        open(3, 7, 13);
        withCalendar(1);
        x.calendar(2, 1);
        x.calendar(3, 1);
        holds("open ones", 3);
        dueBounds("from 8 to 13", 1, 8, 13, 0);
        dueBounds("from 8 to 14", 2, 14, 14, 2);
        dueBounds("from 7 to 13", 3, 7, 7, 2);
        x.calendar(0, 1);
        fails("a present one");
        dueBounds("a present one", 0, 8, 13, 1);
    }

    private static void breaksOneAfterAnother() {
        says("none of its breaks");
        fresh();
        present(2, 9, 50);
        present(2, 0, 29);
        x.calendar(0, 0);
        x.calendar(1, 0);
        // Between 14 and 15, and between 24 and 25, is too little room; between 18 and 20 there is just enough.
        x.pause(0, 25, 30);
        x.pause(0, 20, 24);
        x.pause(0, 15, 18);
        x.pause(0, 10, 14);
        x.pause(0, 16, 17);
        holds("five breaks", 2);
        dueBounds("five breaks", 0, 18, 50, 1);
        dueBounds("five breaks", 1, 0, 18, 1);
        x.pause(0, 18, 19);
        holds("a sixth", 2);
        dueBounds("a sixth", 0, 30, 50, 1);
        dueBounds("a sixth", 1, 0, 8, 1);
    }

    private static void breaksAtTheEnds() {
        says("breaks from 0 on, up to 131");
        fresh();
        present(1, 0, 100);
        x.calendar(0, 0);
        x.pause(0, 0, 1);
        x.pause(0, 100, 101);
        holds("the first and the last start", 2);
        dueBounds("the first and the last start", 0, 1, 99, 1);
        fresh();
        present(30, 0, 100);
        x.calendar(0, 0);
        x.pause(0, 130, 131);
        changesNothing("none is as late as 130");
        x.pause(0, 129, 130);
        holds("129 is the last time", 1);
        dueBounds("129 is the last time", 0, 0, 99, 1);
        x.pause(0, 1, 131);
        fails("all but the time 0");
        fresh();
        present(1, 0, 100);
        x.calendar(0, 0);
        x.pause(0, 1, 131);
        holds("all but the time 0", 1);
        dueBounds("all but the time 0", 0, 0, 0, 1);
    }

    // ---- RULE 3

    private static void capacities() {
        useAtATime();
        useOfWhom();
        useAboveTheCapacity();
        whoNeedsSome();
        leastStartWithRoom();
        greatestStartWithRoom();
        noStartWithRoom();
        withoutItsOwnPart();
        heightsAndCapacity();
        useAtTheLastTime();
    }

    /** Capacity 3 of resource 1; an interval that needs 2 of it and is sure to from 6 to 9. */
    private static void withSureUse(int presence) {
        fresh();
        x.capacity(1, 3);
        any(presence, 4, 5, 6);
        x.need(1, 0, 2);
    }

    private static void useAtATime() {
        says("THE USE at a time t is what present ones need with l at most t, and earliest end above t");
        for (int start = 0; start <= 12; start++) {
            withSureUse(1);
            open(1, start, start);
            x.need(1, 1, 2);
            boolean meets = start >= 6 && start < 9;
            holds("at " + start, meets ? 1 : 0);
            dueBounds("at " + start, 1, start, start, meets ? 0 : 2);
        }
        says("it is sure of no time: l is its earliest end");
        fresh();
        x.capacity(1, 3);
        present(4, 2, 6);
        present(1, 0, 50);
        x.need(1, 0, 2);
        x.need(1, 1, 2);
        changesNothing("l 6, earliest end 6");
        x.fix(0, 1, 5);
        x.fix(1, 0, 5);
        holds("l 5, earliest end 6", 1);
        dueBounds("l 5, earliest end 6", 1, 6, 50, 1);
    }

    private static void useOfWhom() {
        says("what present ones need");
        for (int presence = 0; presence <= 2; presence++) {
            withSureUse(presence);
            present(1, 6, 50);
            x.need(1, 1, 2);
            holds("PRESENCE " + presence, presence == 1 ? 1 : 0);
            dueBounds("PRESENCE " + presence, 1, presence == 1 ? 9 : 6, 50, 1);
        }
        withSureUse(1);
        present(1, 6, 50);
        x.capacity(0, 3);
        x.need(0, 1, 2);
        changesNothing("another resource");
    }

    private static void useAboveTheCapacity() {
        says("Above the capacity at some time: FAIL");
        for (int r = 0; r < 3; r++) {
            fresh();
            x.capacity(r, 5);
            present(4, 0, 1);
            present(4, 2, 3);
            x.need(r, 0, 2);
            x.need(r, 1, 3);
            holds("just the capacity", 0);
            x.capacity(r, 4);
            fails("one above");
            x.capacity(r, 5);
            x.need(r, 1, 4);
            fails("one above by need");
            x.fix(1, 0, 3);
            x.need(r, 1, 3);
            x.capacity(r, 4);
            fails("at 3 alone");
            due("THE USE at 3", x.use(r, 3), 5);
            due("THE USE at 4", x.use(r, 4), 3);
        }
    }

    private static void whoNeedsSome() {
        says("for each interval that needs some (h, p above 0)");
        fresh();
        present(0, 5, 5);
        x.need(0, 0, 20);
        changesNothing("p is 0");
        present(30, 5, 5);
        x.need(0, 1, 0);
        changesNothing("h is 0");
        present(1, 0, 50);
        x.need(0, 2, 1);
        fails("h and p are 1, the capacity is 0");
        x.capacity(0, 1);
        changesNothing("h, p and the capacity are 1");
        fresh();
        open(1, 0, 50);
        absent(1, 0, 50);
        x.need(0, 0, 1);
        x.need(0, 1, 1);
        holds("an open one, an absent one", 1);
        dueBounds("an open one", 0, 0, 50, 0);
        dueBounds("an absent one", 1, 0, 50, 0);
    }

    private static void leastStartWithRoom() {
        says("e is the least start from e on such that at all times in it, p of them, there is room");
        for (int presence = 1; presence <= 2; presence++) {
            for (int from = 0; from <= 12; from++) {
                withSureUse(1);
                any(presence, 3, from, 50);
                x.need(1, 1, 2);
                boolean meets = from > 3 && from < 9;
                holds("e " + from, meets ? 1 : 0);
                dueBounds("e " + from, 1, meets ? 9 : from, 50, presence);
            }
        }
        fresh();
        x.capacity(1, 3);
        for (int k = 0; k < 3; k++) {
            present(2, 5 * k, 5 * k);
            x.need(1, k, 3);
        }
        present(4, 0, 50);
        x.need(1, 3, 1);
        holds("three are in the way, with 3 between", 1);
        dueBounds("three are in the way", 3, 12, 50, 1);
        present(3, 0, 50);
        x.need(1, 4, 1);
        holds("3 are enough", 1);
        dueBounds("3 are enough", 4, 2, 50, 1);
    }

    private static void greatestStartWithRoom() {
        says("then l likewise downwards");
        for (int presence = 1; presence <= 2; presence++) {
            for (int to = 0; to <= 12; to++) {
                withSureUse(1);
                any(presence, 3, 0, to);
                x.need(1, 1, 2);
                boolean meets = to > 3 && to < 9;
                holds("l " + to, meets ? 1 : 0);
                dueBounds("l " + to, 1, 0, meets ? 3 : to, presence);
            }
        }
        says("then l likewise downwards (with its e as it is then)");
        withSureUse(1);
        open(3, 5, 9);
        x.need(1, 1, 2);
        holds("e comes to l", 1);
        dueBounds("e comes to l", 1, 9, 9, 2);
        withSureUse(1);
        open(3, 3, 7);
        x.need(1, 1, 2);
        holds("l comes to e", 1);
        dueBounds("l comes to e", 1, 3, 3, 2);
    }

    private static void noStartWithRoom() {
        says("no start has room: an open one is absent, a present one is a FAIL");
        withSureUse(1);
        open(3, 4, 8);
        x.need(1, 1, 2);
        holds("an open one from 4 to 8", 1);
        dueBounds("an open one from 4 to 8", 1, 4, 8, 0);
        withSureUse(1);
        present(3, 4, 8);
        x.need(1, 1, 2);
        fails("a present one from 4 to 8");
        dueBounds("a present one from 4 to 8", 1, 4, 8, 1);
        x.need(1, 1, 1);
        changesNothing("it needs less");
    }

    private static void withoutItsOwnPart() {
        says("THE USE without its own part");
        fresh();
        x.capacity(2, 7);
        present(4, 5, 6);
        x.need(2, 0, 7);
        changesNothing("all of the capacity is its own");
        present(4, 5, 6);
        x.need(2, 1, 0);
        changesNothing("the other needs nothing");
        x.need(2, 1, 1);
        fails("the other needs 1");
    }

    private static void heightsAndCapacity() {
        says("THE USE without its own part and h are no more than the capacity");
        for (int h = 1; h <= 3; h++) {
            withSureUse(1);
            present(3, 6, 50);
            x.need(1, 1, h);
            holds("h " + h, h == 1 ? 0 : 1);
            dueBounds("h " + h, 1, h == 1 ? 6 : 9, 50, 1);
        }
        withSureUse(1);
        open(3, 6, 50);
        x.need(1, 1, 4);
        holds("h above the capacity", 1);
        dueBounds("h above the capacity", 1, 6, 50, 0);
        x.capacity(1, 20);
        open(3, 6, 50);
        x.need(1, 2, 18);
        changesNothing("2 and 18 of 20");
        x.need(1, 2, 19);
        holds("2 and 19 of 20", 1);
        dueBounds("2 and 19 of 20", 2, 9, 50, 2);
    }

    private static void useAtTheLastTime() {
        says("at all times in it, up to the last one");
        fresh();
        x.capacity(0, 1);
        present(30, 100, 100);
        open(30, 100, 100);
        open(30, 69, 70);
        open(30, 70, 71);
        for (int i = 0; i < 4; i++) {
            x.need(0, i, 1);
        }
        holds("100 to 130 is used", 2);
        dueBounds("in it", 1, 100, 100, 0);
        dueBounds("ahead of it", 2, 69, 70, 2);
        dueBounds("one into it", 3, 70, 70, 2);
    }

    // ---- RULE 4

    private static void work() {
        workAboveTheProduct();
        workOfWhom();
        workPushesE();
        workPushesL();
        workWholePart();
        workAbsentOrFail();
        workNotBelow();
        workByAnyNumber();
        whoseEAndEnd();
        whoseEWithoutLength();
        workOfALongOne();
        whenTheirTurnComes();
    }

    private static void whenTheirTurnComes() {
        says("a is taken when its turn comes");
        fresh();
        x.capacity(0, 3);
        present(3, 0, 2);
        present(0, 0, 1);
        present(2, 0, 2);
        needAll(0, 2);
        // RULE 3 puts the last at 0; from 0 to 1 the first one's e is 1, but a stays 0 for the next b: RULE 3 says 2.
        holds("a stays for all its b", 2);
        due("a stays for all its b, ROUNDS", x.told(1), 3);
        dueBounds("a stays for all its b", 0, 2, 2, 1);
        dueBounds("a stays for all its b", 2, 0, 0, 1);
        says("b when its");
        fresh();
        x.capacity(0, 2);
        present(2, 4, 6);
        present(4, 0, 4);
        x.need(0, 0, 1);
        x.need(0, 1, 2);
        // From 4 to 8 the second one's l is 3, so that its b is 7: from 4 to 7 its l is 2.
        holds("b is what it has become", 1);
        due("b is what it has become, ROUNDS", x.told(1), 2);
        dueBounds("b is what it has become", 1, 0, 2, 1);
        fresh();
        x.capacity(0, 2);
        present(3, 0, 2);
        present(2, 1, 3);
        x.need(0, 0, 2);
        x.need(0, 1, 1);
        // RULE 3 puts the second at 3; from 3 to 5, twice, the first one's l is 1: its own b, 4, has had its turn.
        holds("b by rising numbers", 2);
        due("b by rising numbers, ROUNDS", x.told(1), 3);
        dueBounds("b by rising numbers", 0, 0, 0, 1);
        dueBounds("b by rising numbers", 1, 3, 3, 1);
    }

    /** The window is that of the one present interval, be it the first or the last by number. */
    private static void workByAnyNumber() {
        says("for each a among the e of present ones, for each b among their latest ends, for each interval");
        for (int wide = 0; wide <= 1; wide++) {
            for (int turn = 0; turn <= 1; turn++) {
                fresh();
                x.capacity(0, 1);
                if (turn == 0) {
                    present(1, 0, 1);
                    open(2, 0, wide);
                } else {
                    open(2, 0, wide);
                    present(1, 0, 1);
                }
                needAll(0, 1);
                // From 0 to 2, with ROOM for 1: the open one is at 1 or later.
                holds("the present one is " + turn, 1);
                dueBounds("the present one is " + turn, 1 - turn, wide, wide, wide == 0 ? 0 : 2);
                dueBounds("the present one is " + turn, turn, 0, 1, 1);
            }
        }
    }

    private static void whoseEAndEnd() {
        says("a among the e, b among the latest ends, of present ones that need some");
        for (int turn = 0; turn <= 1; turn++) {
            fresh();
            x.capacity(0, 1);
            if (turn == 0) {
                open(3, 0, 1);
                present(1, 1, 2);
            } else {
                present(1, 1, 2);
                open(3, 0, 1);
            }
            needAll(0, 1);
            // From 1 to 3 alone: with a window of its own from 0 or up to 4 it would be at 1, or at 0, and then absent.
            holds("an open one makes no window", 1);
            dueBounds("an open one makes no window", turn, 0, 1, 0);
        }
        fresh();
        x.capacity(0, 2);
        present(3, 1, 2);
        open(4, 0, 1);
        present(1, 1, 2);
        x.need(0, 1, 2);
        x.need(0, 2, 1);
        // From 1 to 3 alone; up to 5, with ROOM for 3 of its 4, it would be at 0, and then absent.
        holds("one that needs nothing makes no window", 1);
        dueBounds("one that needs nothing makes no window", 1, 0, 1, 0);
    }

    private static void whoseEWithoutLength() {
        says("present ones that need some (h above 0)");
        for (int h = 0; h <= 1; h++) {
            fresh();
            x.capacity(0, 1);
            present(0, 0, 0);
            present(1, 1, 2);
            open(5, 0, 1);
            x.need(0, 0, h);
            x.need(0, 1, 1);
            x.need(0, 2, 1);
            // From 0 to 3, if that is a window, it is at 1 or later; from 1 to 3 it is absent.
            holds("no LENGTH, h is " + h, 1 + h);
            dueBounds("no LENGTH, h is " + h, 2, h, 1, 0);
        }
        fresh();
        x.capacity(0, 2);
        present(0, 1, 3);
        present(2, 1, 3);
        present(2, 0, 2);
        x.need(0, 1, 2);
        x.need(0, 2, 1);
        changesNothing("a latest end of 3, h is 0");
        x.need(0, 0, 1);
        // From 1 to 3 the third works 1 at least, with ROOM for 3 of the second's 4; RULE 3 does the rest.
        holds("a latest end of 3, h is 1", 2);
        dueBounds("a latest end of 3, h is 1", 1, 2, 3, 1);
        dueBounds("a latest end of 3, h is 1", 2, 0, 1, 1);
    }

    private static void workOfALongOne() {
        says("the least of p, b - a");
        fresh();
        x.capacity(0, 2);
        present(30, 0, 0);
        present(3, 10, 13);
        present(3, 10, 13);
        open(2, 10, 40);
        needAll(0, 1);
        // From 10 to 16 it is 6 of the long one's 30, and 3 and 3.
        holds("no ROOM", 1);
        dueBounds("no ROOM", 3, 16, 40, 2);
        present(1, 10, 15);
        x.need(0, 4, 1);
        fails("13 in 12");
    }

    private static void needAll(int r, int h) {
        for (int i = 0; i < x.count(2); i++) {
            x.need(r, i, h);
        }
    }

    private static void workAboveTheProduct() {
        says("of all present ones together above the capacity times (b - a): FAIL");
        for (int r = 0; r < 3; r++) {
            fresh();
            x.capacity(r, 1);
            for (int i = 0; i < 3; i++) {
                present(3, 0, 6);
            }
            needAll(r, 1);
            changesNothing("9 in 9");
            for (int i = 0; i < 3; i++) {
                x.fix(i, 1, 5);
            }
            fails("9 in 8");
            x.capacity(r, 2);
            changesNothing("9 in 16");
        }
        says("the least of p, b - a, e + p - a, b - l, 0 at least");
        fresh();
        x.capacity(0, 1);
        present(6, 4, 8);
        present(4, 0, 10);
        present(4, 0, 10);
        needAll(0, 1);
        // From 0 to 14 it is 6 + 4 + 4.
        changesNothing("14 in 14");
        present(1, 0, 13);
        x.need(0, 3, 1);
        fails("15 in 14");
    }

    private static void workOfWhom() {
        says("of all present ones");
        for (int presence = 0; presence <= 2; presence++) {
            fresh();
            x.capacity(0, 1);
            present(3, 0, 4);
            any(presence, 3, 0, 4);
            present(2, 0, 20);
            needAll(0, 1);
            holds("PRESENCE " + presence, presence == 1 ? 1 : 0);
            dueBounds("PRESENCE " + presence, 2, presence == 1 ? 6 : 0, 20, 1);
        }
        fresh();
        x.capacity(0, 1);
        present(3, 0, 4);
        present(3, 0, 4);
        present(2, 0, 20);
        x.need(0, 0, 1);
        x.need(0, 2, 1);
        changesNothing("one needs nothing");
        x.need(1, 1, 1);
        x.capacity(1, 1);
        changesNothing("one needs another resource");
    }

    private static void workPushesE() {
        says("if h L is above ROOM: e is at least b - ROOM / h");
        for (int presence = 1; presence <= 2; presence++) {
            fresh();
            x.capacity(0, 1);
            present(3, 0, 4);
            present(3, 0, 4);
            any(presence, 1, 0, 20);
            needAll(0, 1);
            changesNothing("L is 1, ROOM is 1");
            fresh();
            x.capacity(0, 1);
            present(3, 0, 4);
            present(3, 0, 4);
            any(presence, 2, 0, 20);
            needAll(0, 1);
            holds("L is 2, ROOM is 1", 1);
            dueBounds("L is 2, ROOM is 1", 2, 6, 20, presence);
        }
        fresh();
        x.capacity(0, 1);
        present(3, 10, 14);
        present(3, 10, 14);
        present(3, 8, 40);
        needAll(0, 1);
        changesNothing("1 of its 3 is behind a, ROOM is 1");
        x.fix(2, 0, 9);
        holds("2 of its 3 are behind a", 1);
        dueBounds("2 of its 3 are behind a", 2, 16, 40, 1);
    }

    private static void workPushesL() {
        says("if h R is above ROOM: l is at most a + ROOM / h - p");
        for (int presence = 1; presence <= 2; presence++) {
            fresh();
            x.capacity(0, 1);
            present(3, 10, 14);
            present(3, 10, 14);
            any(presence, 1, 0, 16);
            needAll(0, 1);
            changesNothing("R is 1, ROOM is 1");
            fresh();
            x.capacity(0, 1);
            present(3, 10, 14);
            present(3, 10, 14);
            any(presence, 2, 0, 15);
            needAll(0, 1);
            holds("R is 2, ROOM is 1", 1);
            dueBounds("R is 2, ROOM is 1", 2, 0, 9, presence);
        }
        fresh();
        x.capacity(0, 1);
        present(3, 10, 14);
        present(3, 10, 14);
        present(3, 0, 16);
        needAll(0, 1);
        changesNothing("1 of its 3 is ahead of b, ROOM is 1");
        x.fix(2, 1, 15);
        holds("2 of its 3 are ahead of b", 1);
        dueBounds("2 of its 3 are ahead of b", 2, 0, 8, 1);
    }

    private static void workWholePart() {
        says("ROOM / h (whole)");
        fresh();
        x.capacity(0, 2);
        for (int i = 0; i < 3; i++) {
            present(3, 0, 3);
        }
        present(2, 0, 20);
        present(1, 0, 20);
        needAll(0, 1);
        x.need(0, 3, 2);
        x.need(0, 4, 2);
        // From 0 to 6, ROOM is 12 less 9.
        holds("3 / 2 at e", 1);
        dueBounds("h L is 4", 3, 5, 20, 1);
        dueBounds("h L is 2", 4, 0, 20, 1);
        fresh();
        x.capacity(0, 2);
        for (int i = 0; i < 3; i++) {
            present(3, 10, 13);
        }
        present(2, 0, 14);
        needAll(0, 1);
        x.need(0, 3, 2);
        holds("3 / 2 at l", 1);
        dueBounds("h R is 4", 3, 0, 9, 1);
    }

    private static void workAbsentOrFail() {
        says("an open one is absent, a present one is a FAIL");
        fresh();
        x.capacity(0, 1);
        present(3, 0, 4);
        present(3, 0, 4);
        open(2, 0, 5);
        open(2, 0, 6);
        absent(2, 0, 5);
        needAll(0, 1);
        holds("open ones", 2);
        dueBounds("up to 5", 2, 0, 5, 0);
        dueBounds("up to 6", 3, 6, 6, 2);
        dueBounds("an absent one", 4, 0, 5, 0);
        x.fix(3, 2, 0);
        // Now that it is sure to be there from 6 on, the first two end by 6.
        holds("up to 6, present", 2);
        dueBounds("up to 6, present", 3, 6, 6, 1);
        present(2, 0, 5);
        x.need(0, 5, 1);
        fails("up to 5, present");
    }

    private static void workNotBelow() {
        says("a below b");
        fresh();
        x.capacity(0, 1);
        present(1, 0, 0);
        present(1, 10, 10);
        present(0, 5, 5);
        needAll(0, 1);
        changesNothing("one behind the other");
    }

    // ---- RULE 5

    private static void pairs() {
        bothMayBeAhead();
        noneMayBeAhead();
        justOneAhead();
        theChange();
        theChangeDecides();
        theChangeOfOpenOnes();
        pairsOfWhom();
        pairsOfNoLength();
    }

    private static void bothInRow(int k) {
        x.row(k, 0);
        x.row(k, 1);
    }

    private static void bothMayBeAhead() {
        says("i may be ahead, if its earliest end is no more than l of j; j likewise");
        for (int k = 0; k < 2; k++) {
            fresh();
            present(3, 0, 5);
            present(5, 0, 3);
            bothInRow(k);
            changesNothing("both just may be");
            fresh();
            present(3, 0, 5);
            present(5, 0, 2);
            bothInRow(k);
            holds("j alone may be", 2);
            dueBounds("j alone may be", 0, 5, 5, 1);
            dueBounds("j alone may be", 1, 0, 0, 1);
            fresh();
            present(3, 0, 4);
            present(5, 0, 3);
            bothInRow(k);
            holds("i alone may be", 2);
            dueBounds("i alone may be", 0, 0, 0, 1);
            dueBounds("i alone may be", 1, 3, 3, 1);
        }
    }

    private static void noneMayBeAhead() {
        says("None may be: FAIL; if one is open, it is absent");
        for (int late = 0; late <= 1; late++) {
            fresh();
            present(3, 0, 4);
            present(5, 0, 2 + late);
            bothInRow(0);
            if (late == 0) {
                fails("both are present");
                dueBounds("both are present", 0, 0, 4, 1);
            } else {
                holds("i just may be", 2);
            }
            fresh();
            open(3, 0, 4);
            present(5, 0, 2 + late);
            bothInRow(0);
            holds("i is open", 1);
            dueBounds("i is open", 0, 0, late == 0 ? 4 : 0, late == 0 ? 0 : 2);
            dueBounds("i is open", 1, 0, 2 + late, 1);
            fresh();
            present(3, 0, 4);
            open(5, 0, 2 + late);
            bothInRow(0);
            holds("j is open", 1);
            dueBounds("j is open", 0, 0, 4, 1);
            dueBounds("j is open", 1, late == 0 ? 0 : 3, 2 + late, late == 0 ? 0 : 2);
        }
    }

    private static void justOneAhead() {
        says("e of y at least x's earliest end, if x is present; l of x at most l of y, less p of x, if y is present");
        for (int turn = 0; turn <= 1; turn++) {
            int first = turn;
            int second = 1 - turn;
            for (int which = 1; which <= 4; which++) {
                int firstIs = which == 2 || which == 4 ? 2 : 1;
                int secondIs = which == 3 || which == 4 ? 2 : 1;
                fresh();
                for (int i = 0; i < 2; i++) {
                    if (i == first) {
                        any(firstIs, 3, 0, 6);
                    } else {
                        any(secondIs, 6, 1, 5);
                    }
                }
                bothInRow(1);
                String when = "x is " + firstIs + ", y is " + secondIs;
                holds(when, which == 1 ? 2 : which == 4 ? 0 : 1);
                dueBounds(when, first, 0, which == 1 || which == 2 ? 2 : 6, firstIs);
                dueBounds(when, second, which == 1 || which == 3 ? 3 : 1, 5, secondIs);
            }
        }
    }

    private static void theChange() {
        says("its earliest end and THE CHANGE from i to j");
        for (int k = 0; k < 2; k++) {
            fresh();
            present(3, 0, 0);
            present(2, 0, 9);
            bothInRow(k);
            x.kind(0, 2);
            x.kind(1, 3);
            x.change(1 - k, 2, 3, 20);
            x.change(k, 3, 2, 20);
            x.change(k, 2, 2, 20);
            x.change(k, 3, 3, 20);
            x.change(k, 2, 3, 4);
            holds("4 to change", 1);
            dueBounds("4 to change", 1, 7, 9, 1);
            x.change(k, 2, 3, 6);
            holds("6 to change", 1);
            dueBounds("6 to change", 1, 9, 9, 1);
            x.change(k, 2, 3, 7);
            fails("7 to change");
        }
        says("l of x at most l of y, less THE CHANGE, less p of x");
        fresh();
        present(2, 9, 9);
        present(3, 0, 9);
        bothInRow(0);
        x.kind(1, 1);
        x.change(0, 1, 0, 5);
        holds("5 to change", 1);
        dueBounds("5 to change", 1, 0, 1, 1);
        x.change(0, 1, 0, 6);
        holds("6 to change", 1);
        dueBounds("6 to change", 1, 0, 0, 1);
        x.change(0, 1, 0, 7);
        fails("7 to change");
    }

    /** LENGTHS 3 and 2, both from 0 to 9, with so much to change from the first to the second, and back. */
    private static void withChanges(int first, int second, int forth, int back) {
        fresh();
        any(first, 3, 0, 9);
        any(second, 2, 0, 9);
        bothInRow(0);
        x.kind(1, 1);
        x.change(0, 0, 1, forth);
        x.change(0, 1, 0, back);
    }

    private static void theChangeDecides() {
        says("its earliest end and THE CHANGE are no more than l of j; j likewise");
        withChanges(1, 1, 6, 7);
        changesNothing("both just may be ahead");
        withChanges(1, 1, 7, 1);
        holds("the second alone may be", 2);
        dueBounds("the second alone may be", 0, 3, 9, 1);
        dueBounds("the second alone may be", 1, 0, 6, 1);
        withChanges(1, 1, 1, 8);
        holds("the first alone may be", 2);
        dueBounds("the first alone may be", 0, 0, 5, 1);
        dueBounds("the first alone may be", 1, 4, 9, 1);
        withChanges(1, 1, 7, 8);
        fails("none may be");
    }

    private static void theChangeOfOpenOnes() {
        says("one present at least, THE CHANGE");
        withChanges(2, 1, 7, 1);
        holds("the second is ahead of an open one", 1);
        dueBounds("the second is ahead of an open one", 0, 3, 9, 2);
        dueBounds("the second is ahead of an open one", 1, 0, 9, 1);
        withChanges(1, 2, 7, 1);
        holds("the second, open, is ahead", 1);
        dueBounds("the second, open, is ahead", 0, 0, 9, 1);
        dueBounds("the second, open, is ahead", 1, 0, 6, 2);
        withChanges(2, 1, 7, 8);
        holds("the first is open, none may be", 1);
        dueBounds("the first is open, none may be", 0, 0, 9, 0);
        withChanges(1, 2, 7, 8);
        holds("the second is open, none may be", 1);
        dueBounds("the second is open, none may be", 1, 0, 9, 0);
        withChanges(2, 2, 7, 8);
        changesNothing("both are open, none may be");
    }

    private static void pairsOfWhom() {
        says("of two of its intervals, none absent, one present at least");
        for (int first = 0; first <= 2; first++) {
            for (int second = 0; second <= 2; second++) {
                if (first != 0 && second != 0 && first + second != 4) {
                    continue;
                }
                fresh();
                any(first, 5, 0, 3);
                any(second, 5, 0, 3);
                bothInRow(0);
                bothInRow(1);
                changesNothing("PRESENCES " + first + " and " + second);
            }
        }
        says("of two of its intervals");
        fresh();
        present(5, 0, 3);
        present(5, 0, 3);
        changesNothing("no row");
        x.row(0, 0);
        changesNothing("one in a row");
        x.row(1, 1);
        changesNothing("one in each row");
        x.row(1, 0);
        fails("both in one");
    }

    private static void pairsOfNoLength() {
        says("an interval of no LENGTH is one of them, too");
        fresh();
        present(5, 2, 2);
        present(0, 2, 7);
        bothInRow(0);
        changesNothing("just at the start, just at the end");
        x.fix(1, 0, 3);
        holds("it starts in the other", 1);
        dueBounds("it starts in the other", 1, 7, 7, 1);
        fresh();
        present(5, 2, 2);
        present(0, 3, 6);
        bothInRow(0);
        fails("it has no other place");
    }

    // ---- RULE 6

    private static void edges() {
        setAboveItsRoom();
        whoIsInSet();
        edgesPushE();
        edgesByItsOwnE();
        edgesGreatestOfThese();
        edgesPushL();
        edgesByItsOwnEnd();
        edgesLeastOfThese();
        edgesAbsentOrFail();
        edgesByAnyNumber();
        whoseEAndEndInARow();
        changesAreNoMatter();
        setOfNoLength();
        whenTheirTurnComesInARow();
    }

    private static void whenTheirTurnComesInARow() {
        says("for each a, each b (as in 4)");
        fresh();
        present(1, 1, 5);
        present(2, 0, 4);
        present(4, 0, 3);
        allInRow(0);
        // From 0 to 6 the last one's e is 3, so that 3 is an a: from 3 to 7 the others' l are 2 and 1; then RULE 7.
        holds("a is what it has become", 4);
        due("a is what it has become, ROUNDS", x.told(1), 2);
        dueBounds("a is what it has become", 0, 2, 2, 1);
        dueBounds("a is what it has become", 1, 0, 0, 1);
        dueBounds("a is what it has become", 2, 3, 3, 1);
    }

    /** Three intervals in a row, told in each of six orders; which of them is behind has no say in the end. */
    private static void edgesByAnyNumber() {
        says("for each a among e of its present ones, each b among their latest ends, for each interval of the row");
        int[][] orders = {{0, 1, 2}, {0, 2, 1}, {1, 0, 2}, {1, 2, 0}, {2, 0, 1}, {2, 1, 0}};
        int[][] byOneA = {{2, 0, 3}, {1, 1, 2}, {2, 1, 4}};
        int[][] thenA = {{0, 2}, {1, 2}, {3, 4}};
        int[][] byOneB = {{1, 0, 3}, {1, 0, 2}, {3, 1, 4}};
        int[][] thenB = {{0, 3}, {0, 2}, {2, 4}};
        for (int[] order : orders) {
            dueInARow("the first alone has e 0", byOneA, thenA, order);
            dueInARow("the first alone has the latest end 4", byOneB, thenB, order);
        }
    }

    private static void dueInARow(String when, int[][] told, int[][] then, int[] order) {
        fresh();
        for (int k : order) {
            present(told[k][0], told[k][1], told[k][2]);
        }
        allInRow(0);
        due(when + ", narrow()", x.narrow(), 1);
        for (int i = 0; i < order.length; i++) {
            dueBounds(when, i, then[order[i]][0], then[order[i]][1], 1);
        }
    }

    private static void whoseEAndEndInARow() {
        says("a among e, b among the latest ends, of its present ones");
        fresh();
        open(1, 0, 4);
        present(2, 1, 3);
        present(3, 0, 2);
        allInRow(0);
        // RULE 5 puts them at 3 and 0; from 3 to 5 the open one is at 2 or earlier, and from 0 to 5 absent.
        holds("an open one makes no window", 4);
        dueBounds("an open one makes no window", 0, 0, 2, 0);
        dueBounds("an open one makes no window", 1, 3, 3, 1);
        dueBounds("an open one makes no window", 2, 0, 0, 1);
        fresh();
        open(2, 3, 6);
        present(1, 4, 5);
        present(3, 2, 4);
        present(2, 2, 5);
        x.row(0, 0);
        x.row(0, 1);
        x.row(0, 3);
        // From 2 to 7 RULE 7 puts the open one at 4, too late for RULES 5 to 7 to see in this ROUND that it is 5.
        holds("an e of one that is not in the row", 1);
        due("an e of one that is not in the row, ROUNDS", x.told(1), 3);
        dueBounds("an e of one that is not in the row", 0, 5, 6, 2);
        fresh();
        open(3, 3, 10);
        present(4, 8, 9);
        present(5, 4, 6);
        present(3, 2, 10);
        x.row(0, 0);
        x.row(0, 2);
        x.row(0, 3);
        // From 2 to 13, the last window, RULE 7 puts the open one at 5; that it is 9 is seen in the next ROUND.
        holds("a latest end of one that is not in the row", 1);
        due("a latest end of one that is not in the row, ROUNDS", x.told(1), 3);
        dueBounds("a latest end of one that is not in the row", 0, 9, 10, 2);
    }

    private static void changesAreNoMatter() {
        says("P the sum of their p");
        fresh();
        for (int i = 0; i < 3; i++) {
            present(2, 0, 6);
        }
        allInRow(0);
        x.change(0, 0, 0, 2);
        // With changes they take 10 of 8; RULES 5 to 7 see pairs and LENGTHS alone.
        changesNothing("changes between them");
    }

    private static void setOfNoLength() {
        says("P, of no LENGTH");
        fresh();
        present(0, 0, 5);
        present(6, 0, 20);
        allInRow(0);
        changesNothing("one of no LENGTH");
        fresh();
        present(0, 3, 5);
        present(6, 0, 20);
        allInRow(0);
        // 6 + 0 is above 5: it is behind the one of no LENGTH.
        holds("one of no LENGTH at 3 or later", 1);
        dueBounds("one of no LENGTH at 3 or later", 1, 3, 20, 1);
    }

    private static void allInRow(int k) {
        for (int i = 0; i < x.count(2); i++) {
            x.row(k, i);
        }
    }

    private static void setAboveItsRoom() {
        says("P above b - a: FAIL");
        for (int k = 0; k < 2; k++) {
            fresh();
            for (int i = 0; i < 3; i++) {
                present(3, 0, 6);
            }
            allInRow(k);
            changesNothing("9 in 9");
            for (int i = 0; i < 3; i++) {
                x.fix(i, 1, 5);
            }
            fails("9 in 8");
        }
        fresh();
        present(3, 0, 5);
        present(3, 0, 5);
        open(3, 0, 5);
        absent(3, 0, 5);
        allInRow(0);
        holds("6 in 8, an open one, an absent one", 1);
        dueBounds("an open one", 2, 0, 5, 0);
        dueBounds("an absent one", 3, 0, 5, 0);
    }

    private static void whoIsInSet() {
        says("its present ones with e at least a and latest end at most b");
        fresh();
        present(3, 1, 5);
        present(3, 1, 5);
        present(2, 1, 6);
        allInRow(0);
        fails("all from 1 to 8");
        fresh();
        present(3, 1, 5);
        present(3, 1, 5);
        present(2, 0, 6);
        allInRow(0);
        // It is ahead of both, then, as it may not be behind both.
        holds("one from 0 on", 3);
        dueBounds("one from 0 on", 2, 0, 0, 1);
        dueBounds("one from 0 on", 0, 2, 5, 1);
        fresh();
        present(3, 1, 5);
        present(3, 1, 5);
        present(2, 1, 7);
        allInRow(0);
        holds("one up to 9", 3);
        dueBounds("one up to 9", 2, 7, 7, 1);
        dueBounds("one up to 9", 0, 1, 4, 1);
        fresh();
        present(3, 1, 5);
        present(3, 1, 5);
        present(2, 1, 6);
        x.row(0, 0);
        x.row(0, 1);
        x.row(1, 2);
        changesNothing("one in another row");
    }

    private static void edgesPushE() {
        says("if (the lesser of a and its e) + P + its p is above b: its e is at least the end of SET");
        for (int presence = 1; presence <= 2; presence++) {
            fresh();
            present(3, 0, 4);
            present(2, 0, 5);
            any(presence, 2, 0, 20);
            allInRow(0);
            changesNothing("7 is not above 7");
            fresh();
            present(3, 0, 3);
            present(2, 0, 4);
            any(presence, 2, 0, 20);
            allInRow(0);
            holds("7 is above 6", 1);
            dueBounds("7 is above 6", 2, 5, 20, presence);
        }
    }

    private static void edgesByItsOwnE() {
        says("(the lesser of a and its e)");
        for (int e = 8; e <= 13; e++) {
            fresh();
            present(3, 10, 13);
            present(2, 10, 14);
            open(2, e, 30);
            allInRow(1);
            // From 10 to 16; up to 9 it may be ahead of both, from 10 on it must be behind both.
            holds("e " + e, e >= 10 ? 1 : 0);
            dueBounds("e " + e, 2, e >= 10 ? 15 : e, 30, 2);
        }
    }

    private static void edgesGreatestOfThese() {
        says("for each e' of SET's: e' and the p of those in SET with e at least e' together (the greatest of these)");
        fresh();
        present(2, 0, 8);
        present(4, 4, 6);
        present(5, 0, 20);
        allInRow(0);
        holds("4 + 4 is above 0 + 2 + 4", 1);
        dueBounds("4 + 4", 2, 8, 20, 1);
        fresh();
        present(3, 0, 7);
        present(4, 2, 6);
        present(4, 0, 20);
        allInRow(0);
        holds("0 + 3 + 4 is above 2 + 4", 1);
        dueBounds("0 + 3 + 4", 2, 7, 20, 1);
    }

    private static void edgesPushL() {
        says("if P + its p is above (the greater of b and its latest end) - a: l is at most SET's start, less its p");
        for (int presence = 1; presence <= 2; presence++) {
            fresh();
            present(3, 10, 14);
            present(2, 10, 15);
            any(presence, 2, 0, 15);
            allInRow(0);
            changesNothing("7 is not above 7");
            fresh();
            present(3, 10, 13);
            present(2, 10, 14);
            any(presence, 2, 0, 14);
            allInRow(0);
            holds("7 is above 6", 1);
            dueBounds("7 is above 6", 2, 0, 9, presence);
        }
    }

    private static void edgesByItsOwnEnd() {
        says("(the greater of b and its latest end)");
        for (int l = 11; l <= 17; l++) {
            fresh();
            present(3, 10, 13);
            present(2, 10, 14);
            open(2, 0, l);
            allInRow(1);
            // From 10 to 16; from a latest end of 17 on it may be behind both.
            holds("l " + l, l <= 14 ? 1 : 0);
            dueBounds("l " + l, 2, 0, l <= 14 ? 9 : l, 2);
        }
    }

    private static void edgesLeastOfThese() {
        says("for each latest end b' of SET's: b' less the p of those with latest end at most b' (the least of these)");
        fresh();
        present(2, 30, 38);
        present(4, 30, 32);
        present(5, 15, 35);
        allInRow(0);
        holds("36 - 4 is below 40 - 6", 1);
        dueBounds("36 - 4", 2, 15, 27, 1);
        fresh();
        present(3, 30, 37);
        present(4, 30, 34);
        present(4, 16, 36);
        allInRow(0);
        holds("40 - 7 is below 38 - 4", 1);
        dueBounds("40 - 7", 2, 16, 29, 1);
    }

    private static void edgesAbsentOrFail() {
        says("an open one is absent, an absent one is left alone");
        fresh();
        present(3, 0, 3);
        present(2, 0, 4);
        open(2, 0, 5);
        open(2, 0, 4);
        absent(2, 0, 4);
        allInRow(0);
        holds("open ones", 2);
        dueBounds("up to 5", 2, 5, 5, 2);
        dueBounds("up to 4", 3, 0, 4, 0);
        dueBounds("an absent one", 4, 0, 4, 0);
        fresh();
        present(3, 0, 3);
        present(2, 0, 4);
        present(2, 0, 4);
        allInRow(0);
        fails("a present one up to 4");
    }

    // ---- RULE 7

    private static void notFirstNotLast() {
        notFirst();
        notLast();
        noSet();
        notFirstOfWhom();
        notFirstNotLastFails();
        setOfOne();
    }

    private static void setOfOne() {
        says("SET (not empty), of one");
        fresh();
        present(0, 0, 2);
        present(2, 0, 1);
        present(1, 0, 0);
        allInRow(0);
        // RULE 5 puts the second at 1; from 1 to 3 the first is not last, in this ROUND.
        holds("one from 1 to 3", 2);
        due("one from 1 to 3, ROUNDS", x.told(1), 2);
        dueBounds("one from 1 to 3", 0, 0, 1, 1);
        dueBounds("one from 1 to 3", 1, 1, 1, 1);
    }

    private static void notFirstNotLastFails() {
        says("a present one is a FAIL");
        fresh();
        present(3, 0, 6);
        present(2, 0, 6);
        present(0, 4, 5);
        present(3, 3, 4);
        allInRow(0);
        // RULE 5 puts the last two at 4, RULE 6 the first two at 1 and 2 or earlier; from 0 to 4 3 is not last.
        fails("four in a row");
        due("four in a row, ROUNDS", x.told(1), 1);
        x.store(0, 5, 6, 7);
        x.event(0, 0, false, 1);
        fails("four in a row, ahead of a store");
        dueBounds("four in a row", 3, 3, 4, 1);
        dueBounds("four in a row", 0, 0, 6, 1);
    }

    private static void notFirst() {
        says("if its earliest end + P is above b: e is at least the least earliest end in SET");
        for (int presence = 1; presence <= 2; presence++) {
            fresh();
            present(4, 0, 6);
            present(3, 0, 7);
            any(presence, 2, 1, 20);
            allInRow(0);
            changesNothing("10 is not above 10");
            x.fix(2, 0, 2);
            holds("11 is above 10", 1);
            dueBounds("11 is above 10", 2, 3, 20, presence);
        }
    }

    private static void notLast() {
        says("Then, if its l is below a + P: l is at most the greatest l in SET, less its p");
        for (int presence = 1; presence <= 2; presence++) {
            fresh();
            present(4, 5, 11);
            present(3, 5, 12);
            any(presence, 2, 0, 12);
            allInRow(0);
            changesNothing("12 is not below 12");
            x.fix(2, 1, 11);
            holds("11 is below 12", 1);
            dueBounds("11 is below 12", 2, 0, 10, presence);
        }
    }

    private static void noSet() {
        says("SET (not empty)");
        fresh();
        present(5, 5, 20);
        present(1, 0, 8);
        allInRow(0);
        // From 5, the one's e, to 9, the other's latest end, there is none.
        changesNothing("an empty SET");
    }

    private static void notFirstOfWhom() {
        says("an open one is absent, an absent one is left alone");
        fresh();
        present(4, 0, 6);
        present(3, 0, 7);
        open(2, 2, 2);
        absent(2, 2, 2);
        open(2, 1, 1);
        allInRow(0);
        holds("open ones", 1);
        dueBounds("at 2", 2, 2, 2, 0);
        dueBounds("absent, at 2", 3, 2, 2, 0);
        dueBounds("at 1", 4, 1, 1, 2);
    }

    // ---- RULE 8

    private static void stores() {
        beginnings();
        mostOfWhat();
        mostOfWhom();
        leastOfWhat();
        leastOfWhom();
        eachTime();
    }

    private static void beginnings() {
        says("STORES that have EVENTS: the beginning is below the least, or above the greatest level: FAIL");
        for (int k = 0; k < 2; k++) {
            fresh();
            present(1, 0, 9);
            x.store(k, 5, 6, 8);
            changesNothing("no EVENTS, below");
            x.store(k, 9, 6, 8);
            changesNothing("no EVENTS, above");
            x.event(k, 0, false, -1);
            fails("above");
            x.store(k, 8, 6, 8);
            changesNothing("just the greatest");
            x.store(k, 7, 6, 8);
            changesNothing("just the least behind it");
            x.store(k, 6, 6, 8);
            fails("below the least behind it");
            fresh();
            present(1, 0, 9);
            x.event(k, 0, false, 1);
            x.store(k, 5, 6, 8);
            fails("below");
            x.store(k, 6, 6, 8);
            changesNothing("just the least");
            x.store(1 - k, 5, 6, 8);
            changesNothing("the other store has none");
        }
    }

    /** What one takes (at its end, from 2 to 6) another may add (at its start). */
    private static void takeThenAdd(int takes, int adds, int addFrom, int addTo) {
        fresh();
        any(takes, 2, 0, 4);
        any(adds, 3, addFrom, addTo);
        x.event(0, 0, true, -2);
        x.event(0, 1, false, 2);
    }

    private static void mostOfWhat() {
        says("MOST: .. added by EVENTS whose earliest time is at most that, less what is taken whose latest time is");
        takeThenAdd(1, 1, 6, 50);
        x.store(0, 0, 0, 9);
        changesNothing("it may be added just in time");
        takeThenAdd(1, 1, 7, 50);
        x.store(0, 0, 0, 9);
        fails("it is added too late");
        says("MOST: below the least level: FAIL");
        x.store(0, 2, 0, 9);
        changesNothing("just the least level");
        x.store(0, 1, 0, 9);
        fails("one below");
        x.store(0, 1, -1, 9);
        changesNothing("a lesser level");
    }

    private static void mostOfWhom() {
        says("MOST: added by EVENTS (of none absent), less what present ones take");
        takeThenAdd(1, 2, 6, 50);
        x.store(0, 0, 0, 9);
        changesNothing("an open one may add");
        takeThenAdd(1, 0, 6, 50);
        x.store(0, 0, 0, 9);
        fails("an absent one does not");
        takeThenAdd(2, 0, 6, 50);
        x.store(0, 0, 0, 9);
        changesNothing("an open one does not take");
        takeThenAdd(0, 0, 6, 50);
        x.store(0, 0, 0, 9);
        changesNothing("nor does an absent one");
        takeThenAdd(1, 0, 6, 50);
        open(1, 0, 0);
        present(1, 0, 9);
        x.event(0, 2, false, -1);
        x.event(0, 3, false, -1);
        x.store(0, 1, 0, 9);
        fails("1 less 2, what an open one and a later one take besides");
        x.store(0, 2, 0, 9);
        fails("2 less 2, less 1 at last");
        x.store(0, 3, 0, 9);
        changesNothing("3 less 2, less 1 at last");
    }

    private static void addThenTake(int adds, int takes, int takeFrom, int takeTo) {
        fresh();
        any(adds, 2, 0, 4);
        any(takes, 3, takeFrom, takeTo);
        x.event(1, 0, true, 2);
        x.event(1, 1, false, -2);
    }

    private static void leastOfWhat() {
        says("LEAST: .. less what EVENTS take whose earliest time is at most that, and what is added whose latest is");
        addThenTake(1, 1, 6, 50);
        x.store(1, 0, -9, 0);
        changesNothing("it may be taken just in time");
        addThenTake(1, 1, 7, 50);
        x.store(1, 0, -9, 0);
        fails("it is taken too late");
        says("LEAST: above the greatest level: FAIL");
        x.store(1, -2, -9, 0);
        changesNothing("just the greatest level");
        x.store(1, -1, -9, 0);
        fails("one above");
        x.store(1, -1, -9, 1);
        changesNothing("a greater level");
    }

    private static void leastOfWhom() {
        says("LEAST: less what EVENTS (none absent) take, and what present ones add");
        addThenTake(1, 2, 6, 50);
        x.store(1, 0, -9, 0);
        changesNothing("an open one may take");
        addThenTake(1, 0, 6, 50);
        x.store(1, 0, -9, 0);
        fails("an absent one does not");
        addThenTake(2, 0, 6, 50);
        x.store(1, 0, -9, 0);
        changesNothing("an open one does not add");
        addThenTake(0, 0, 6, 50);
        x.store(1, 0, -9, 0);
        changesNothing("nor does an absent one");
        addThenTake(1, 0, 6, 50);
        open(1, 0, 0);
        present(1, 0, 9);
        x.event(1, 2, false, 1);
        x.event(1, 3, false, 1);
        x.store(1, -1, -9, 0);
        fails("-1 and 2, what an open one and a later one add besides");
        x.store(1, -2, -9, 0);
        fails("-2 and 2, and 1 at last");
        x.store(1, -3, -9, 0);
        changesNothing("-3 and 2, and 1 at last");
    }

    private static void eachTime() {
        says("At each time that is the earliest or latest of some EVENT");
        for (int gap = 0; gap <= 2; gap++) {
            fresh();
            present(1, 5, 5);
            present(1, 5 + gap, 5 + gap);
            x.store(0, 3, 0, 9);
            x.event(0, 1, false, 4);
            x.event(0, 0, false, -4);
            if (gap == 0) {
                changesNothing("at one time");
            } else {
                fails("low for " + gap);
            }
            x.store(0, 3, -9, 3);
            changesNothing("up to the greatest at the end");
            x.store(0, 3, -9, 5);
            changesNothing("never high");
            fresh();
            present(1, 5, 5);
            present(1, 5 + gap, 5 + gap);
            x.store(1, 3, 0, 6);
            x.event(1, 1, false, -4);
            x.event(1, 0, false, 4);
            if (gap == 0) {
                changesNothing("at one time");
            } else {
                fails("high for " + gap);
            }
        }
        fresh();
        present(5, 0, 2);
        x.store(0, 0, 0, 9);
        x.event(0, 0, false, -1);
        x.event(0, 0, true, 1);
        // Its start is at 2 at the latest, its end at 5 at the earliest.
        fails("low between start and end");
        fresh();
        present(5, 0, 5);
        x.store(0, 0, 0, 9);
        x.event(0, 0, false, -1);
        x.event(0, 0, true, 1);
        changesNothing("start and end by their bounds alone");
    }

    // ---- RULE 9

    private static void choices() {
        for (int turn = 0; turn < 3; turn++) {
            master = turn;
            first = (turn + 1) % 3;
            second = (turn + 2) % 3;
            noOptionLeft();
            absentMaster();
            presentOption();
            oneOptionAlone();
            othersAbsent();
            masterBounds();
            masterBoundsAtTheEnds();
            masterThenOptions();
            optionBounds();
        }
        noChoice();
    }

    /** A master and its two options with their PRESENCES, that all may start from 0 to 9. */
    private static void choice(int masterIs, int firstIs, int secondIs) {
        fresh();
        for (int i = 0; i < 3; i++) {
            any(i == master ? masterIs : i == first ? firstIs : secondIs, 2, 0, 9);
        }
        x.option(master, first);
        x.option(master, second);
    }

    private static void duePresences(String when, int masterIs, int firstIs, int secondIs) {
        dueBounds(when, master, 0, 9, masterIs);
        dueBounds(when, first, 0, 9, firstIs);
        dueBounds(when, second, 0, 9, secondIs);
    }

    /** What was made present or absent is a change, too: a ROUND goes behind it. */
    private static void settles(String when, int others) {
        holds(when, others);
        due(when + ", ROUNDS", x.told(1), 2);
    }

    private static void noOptionLeft() {
        says("no option is not absent: it is absent (present: FAIL)");
        choice(2, 0, 0);
        settles("an open master", 1);
        duePresences("an open master", 0, 0, 0);
        choice(1, 0, 0);
        fails("a present master");
        duePresences("a present master", 1, 0, 0);
        choice(0, 0, 0);
        changesNothing("an absent master");
        choice(2, 0, 2);
        changesNothing("one is left");
    }

    private static void absentMaster() {
        says("It is absent: so are its options (present: FAIL)");
        choice(0, 2, 2);
        settles("open options", 2);
        duePresences("open options", 0, 0, 0);
        choice(0, 0, 2);
        settles("an open option", 1);
        duePresences("an open option", 0, 0, 0);
        choice(0, 1, 0);
        fails("a present option");
        choice(0, 2, 1);
        fails("an open and a present option");
        duePresences("an open and a present option", 0, 2, 1);
    }

    private static void presentOption() {
        says("An option is present: so is the master");
        choice(2, 0, 1);
        settles("the second", 1);
        duePresences("the second", 1, 0, 1);
        choice(2, 1, 0);
        settles("the first", 1);
        duePresences("the first", 1, 1, 0);
        choice(2, 2, 2);
        changesNothing("none is");
        duePresences("none is", 2, 2, 2);
    }

    private static void oneOptionAlone() {
        says("The master is present, and one option alone is not absent: that is present");
        choice(1, 0, 2);
        settles("the second", 1);
        duePresences("the second", 1, 0, 1);
        choice(1, 2, 0);
        settles("the first", 1);
        duePresences("the first", 1, 1, 0);
        choice(1, 2, 2);
        changesNothing("two are not");
        choice(2, 2, 0);
        changesNothing("the master is open");
    }

    private static void othersAbsent() {
        says("One is present: others are absent (a second present one: FAIL)");
        choice(1, 2, 1);
        settles("the second is", 1);
        duePresences("the second is", 1, 0, 1);
        choice(2, 1, 2);
        settles("the first is", 2);
        duePresences("the first is", 1, 1, 0);
        choice(1, 1, 1);
        fails("two are, of a present master");
        choice(2, 1, 1);
        fails("two are, of an open master");
        duePresences("two are", 2, 1, 1);
    }

    /** A master and its options, from 4 to 12 and from 6 to 15, and an absent one besides. */
    private static void starts(int presence, int masterFrom, int masterTo) {
        fresh();
        for (int i = 0; i < 3; i++) {
            if (i == master) {
                any(presence, 2, masterFrom, masterTo);
            } else {
                open(2, i == first ? 4 : 6, i == first ? 12 : 15);
            }
        }
        absent(2, 0, 50);
        for (int i = 0; i < 4; i++) {
            x.option(master, i);
        }
    }

    private static void masterBounds() {
        says("e of the master is at least the least e of those not absent, l at most the greatest l");
        for (int presence = 1; presence <= 2; presence++) {
            starts(presence, 4, 15);
            changesNothing("just these");
            starts(presence, 3, 16);
            settles("one wider", 2);
            dueBounds("one wider", master, 4, 15, presence);
            dueBounds("an absent one", 3, 0, 50, 0);
        }
        starts(2, 16, 20);
        holds("an open master that starts too late", 3);
        dueBounds("an open master that starts too late", master, 16, 20, 0);
        dueBounds("its first option", first, 4, 12, 0);
        dueBounds("its second option", second, 6, 15, 0);
        starts(2, 0, 3);
        holds("an open master that starts too early", 3);
        dueBounds("an open master that starts too early", master, 0, 3, 0);
        starts(1, 16, 20);
        fails("a present master that starts too late");
        starts(1, 0, 3);
        fails("a present master that starts too early");
    }

    private static void masterThenOptions() {
        says("Then e of the master, l; e and l of each option");
        fresh();
        for (int i = 0; i < 3; i++) {
            if (i == master) {
                open(2, 2, 9);
            } else {
                open(2, i == first ? 0 : 5, i == first ? 1 : 8);
            }
        }
        x.option(master, first);
        x.option(master, second);
        // The first option's e counts for the master, that makes it absent only then; so e is 5 in ROUND 2.
        holds("an option that is too early", 3);
        due("an option that is too early, ROUNDS", x.told(1), 3);
        dueBounds("the master", master, 5, 8, 2);
        dueBounds("the first option", first, 0, 1, 0);
        dueBounds("the second option", second, 5, 8, 2);
    }

    private static void masterBoundsAtTheEnds() {
        says("the least e, the greatest l, at 0 and 100");
        fresh();
        for (int i = 0; i < 3; i++) {
            any(i == master ? 1 : 2, 2, 0, i == master ? 1 : 0);
        }
        x.option(master, first);
        x.option(master, second);
        settles("all options at 0", 1);
        dueBounds("all options at 0", master, 0, 0, 1);
        fresh();
        for (int i = 0; i < 3; i++) {
            any(i == master ? 1 : 2, 2, i == master ? 99 : 100, 100);
        }
        x.option(master, first);
        x.option(master, second);
        settles("all options at 100", 1);
        dueBounds("all options at 100", master, 100, 100, 1);
    }

    private static void optionBounds() {
        says("e and l of each option are bound by the master's");
        starts(1, 5, 13);
        settles("a present master", 2);
        dueBounds("the first", first, 5, 12, 2);
        dueBounds("the second", second, 6, 13, 2);
        starts(2, 7, 11);
        settles("an open master", 4);
        dueBounds("the first, of an open master", first, 7, 11, 2);
        dueBounds("the second, of an open master", second, 7, 11, 2);
        starts(1, 12, 15);
        settles("the first just may be", 2);
        dueBounds("the first just may be", first, 12, 12, 2);
        starts(1, 13, 15);
        holds("the first may not be", 3);
        dueBounds("the first may not be", first, 4, 12, 0);
        dueBounds("the second is left", second, 13, 15, 1);
        starts(1, 4, 6);
        settles("the second just may be", 2);
        dueBounds("the second just may be", second, 6, 6, 2);
        starts(1, 4, 5);
        holds("the second may not be", 3);
        dueBounds("the second may not be", second, 6, 15, 0);
        dueBounds("the first is left", first, 4, 5, 1);
    }

    private static void noChoice() {
        says("for each master");
        fresh();
        present(2, 0, 3);
        open(2, 5, 9);
        absent(2, 0, 9);
        changesNothing("no options");
        fresh();
        present(2, 0, 5);
        present(2, 5, 9);
        x.option(0, 1);
        holds("a present master and option that may start together", 2);
        dueBounds("the master", 0, 5, 5, 1);
        dueBounds("the option", 1, 5, 5, 1);
        fresh();
        present(2, 0, 4);
        present(2, 5, 9);
        x.option(0, 1);
        fails("a present master and option that may not");
    }
}
