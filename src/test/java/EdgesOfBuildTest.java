/** Promises 1 to 8, sentence by sentence: the last that is allowed, the first that is not, empty and full. */
public final class EdgesOfBuildTest {
    private static final int NONE = -1;
    private static final int LEAST_INT = Integer.MIN_VALUE;
    private static final int GREATEST_INT = Integer.MAX_VALUE;
    private static final Check CHECK = new Check();

    public static void main(String[] args) {
        noEventsCounted();
        noEventsAsked();
        noEventsToBuildOn();
        trainsOfEvents();
        plansOfEvents();
        sixtyEvents();
        refusedEventsTakeNoNumber();
        kinds();
        leasts();
        eventsOfActivities();
        lastEventsOfActivities();
        oneAndTheSame();
        trainsThatFitTheKind();
        hundredActivities();
        refusedActivitiesTakeNoNumber();
        newChangesAreKept();
        sourcesOfEvents();
        minutesOfSources();
        sourcesTakeThePlaceOfThoseBefore();
        keepIsForChanges();
        keepOfWhatIsSoAlready();
        keepOfTheLastActivity();
        turnIsForHeadways();
        turnOfTheLastActivity();
        turnTwice();
        cancelledTrains();
        cancelOfWhatIsSoAlready();
        allTrainsCancelled();
        cancelledTwiceOver();
        howManyTravel();
        howLongTheyWait();
        firstAndLastEvents();
        lastEventsOfGroups();
        noChangeOneTwo();
        changesOfGroups();
        lastChangeOfGroups();
        trainsThatFit();
        thirtyGroups();
        refusedGroupsTakeNoNumber();
        memoryIsTheDesksOwn();
        CHECK.end();
    }

    /** Events 0 and 1 of train 0, 2 and 3 of train 1, and so on. */
    private static DelayDesk pairs(int trains) {
        DelayDesk x = new DelayDesk();
        for (int e = 0; e < 2 * trains; e++) {
            x.event(e / 2, 10 * e);
        }
        return x;
    }

    private static DelayDesk sixty() {
        DelayDesk x = new DelayDesk();
        for (int e = 0; e < 60; e++) {
            x.event(e % 16, 0);
        }
        return x;
    }

    /** Promise 1: "No EVENTS." */
    private static void noEventsCounted() {
        DelayDesk x = new DelayDesk();
        for (int what = 0; what <= 7; what++) {
            CHECK.due("empty: count " + what, x.count(what), 0);
        }
    }

    private static void noEventsAsked() {
        DelayDesk x = new DelayDesk();
        CHECK.due("empty: spread", x.spread(), 1);
        CHECK.due("empty: cost", x.cost(), 0);
        CHECK.due("empty: choose", x.choose(), 0);
        CHECK.due("empty: rule 0", x.rule(0), 0);
        CHECK.due("empty: rule 1000", x.rule(1000), 0);
        CHECK.due("empty: recover", x.recover(), NONE);
        for (int number : new int[] {LEAST_INT, -1, 0, 1, GREATEST_INT}) {
            CHECK.due("empty: ring " + number, x.ring(number), NONE);
            CHECK.due("empty: cause " + number, x.cause(number), NONE);
            CHECK.due("empty: way " + number, x.way(number, 0), NONE);
            for (int what = 0; what <= 6; what++) {
                CHECK.due("empty: of " + number + " " + what, x.of(number, what), NONE);
                CHECK.due("empty: look " + number + " " + what, x.look(number, what), NONE);
                CHECK.due("empty: told " + number + " " + what, x.told(number, what), NONE);
            }
        }
    }

    private static void noEventsToBuildOn() {
        DelayDesk x = new DelayDesk();
        CHECK.due("empty: activity", x.activity(0, 0, 1, 0), NONE);
        CHECK.due("empty: source", x.source(0, 0), false);
        CHECK.due("empty: keep", x.keep(0, true), false);
        CHECK.due("empty: break", x.keep(0, false), false);
        CHECK.due("empty: turn", x.turn(0), false);
        CHECK.due("empty: group", x.group(1, 0, NONE, NONE, 0, 0), NONE);
        CHECK.due("empty: a train can be cancelled", x.cancel(0, true), true);
    }

    /** Promise 2: "NONE: no such TRAIN" (0 to 15). */
    private static void trainsOfEvents() {
        DelayDesk x = new DelayDesk();
        for (int train = 0; train <= 15; train++) {
            CHECK.due("train " + train, x.event(train, 5), train);
            CHECK.due("train told " + train, x.of(train, 4), train);
        }
        for (int train : new int[] {LEAST_INT, LEAST_INT + 15, -16, -1, 16, 17, 31, GREATEST_INT}) {
            CHECK.due("train " + train, x.event(train, 5), NONE);
        }
        CHECK.due("16 came", x.count(0), 16);
    }

    /** Promise 2: "NONE: no such .. PLAN" (0 to 2000). */
    private static void plansOfEvents() {
        DelayDesk x = new DelayDesk();
        int[] allowed = {0, 1, 1999, 2000};
        for (int e = 0; e < allowed.length; e++) {
            CHECK.due("plan " + allowed[e], x.event(1, allowed[e]), e);
            CHECK.due("plan told " + allowed[e], x.of(e, 2), allowed[e]);
            CHECK.due("minutes at plan " + allowed[e], x.of(e, 0), allowed[e]);
        }
        for (int plan : new int[] {LEAST_INT, -2000, -2, -1, 2001, 2002, GREATEST_INT}) {
            CHECK.due("plan " + plan, x.event(1, plan), NONE);
        }
        CHECK.due("4 came", x.count(0), 4);
    }

    /** Promise 2: "NONE: .. or 60 are there"; those of cancelled trains have their numbers too. */
    private static void sixtyEvents() {
        DelayDesk x = new DelayDesk();
        for (int e = 0; e < 60; e++) {
            CHECK.due("event " + e, x.event(15 - e % 16, 2000 - e), e);
        }
        CHECK.due("one too many", x.event(0, 0), NONE);
        for (int train = 0; train < 16; train++) {
            x.cancel(train, true);
            CHECK.due("one too many, cancelled " + train, x.event(train, 0), NONE);
        }
        CHECK.due("60 came", x.count(0), 60);
        CHECK.due("plan of the first", x.of(0, 2), 2000);
        CHECK.due("plan of the last", x.of(59, 2), 1941);
        CHECK.due("train of the last", x.of(59, 4), 4);
    }

    private static void refusedEventsTakeNoNumber() {
        DelayDesk x = new DelayDesk();
        x.event(16, 0);
        CHECK.due("the first", x.event(7, 8), 0);
        x.event(0, 2001);
        CHECK.due("the second", x.event(9, 10), 1);
        CHECK.due("its train", x.of(1, 4), 9);
        CHECK.due("its plan", x.of(1, 2), 10);
        CHECK.due("its source", x.of(1, 3), 0);
    }

    /** Promise 3: "NONE: no such KIND" (0 to 4). */
    private static void kinds() {
        DelayDesk x = pairs(2);
        for (int kind = 0; kind <= 4; kind++) {
            CHECK.due("kind " + kind, x.activity(kind, 1, kind <= 1 ? 0 : 2, 0), kind);
            CHECK.due("kind told " + kind, x.look(kind, 0), kind);
        }
        for (int kind : new int[] {LEAST_INT, -5, -1, 5, 6, GREATEST_INT}) {
            CHECK.due("within a train, kind " + kind, x.activity(kind, 1, 0, 0), NONE);
            CHECK.due("of two trains, kind " + kind, x.activity(kind, 1, 2, 0), NONE);
        }
        CHECK.due("5 came", x.count(1), 5);
    }

    /** Promise 3: "NONE: no such .. LEAST" (0 to 500). */
    private static void leasts() {
        DelayDesk x = pairs(2);
        int[] allowed = {0, 1, 499, 500};
        for (int a = 0; a < allowed.length; a++) {
            CHECK.due("least " + allowed[a], x.activity(3, 0, 2, allowed[a]), a);
            CHECK.due("least told " + allowed[a], x.look(a, 3), allowed[a]);
        }
        for (int least : new int[] {LEAST_INT, -500, -1, 501, 502, GREATEST_INT}) {
            for (int kind = 0; kind <= 4; kind++) {
                CHECK.due("least " + least + ", kind " + kind, x.activity(kind, 0, kind <= 1 ? 1 : 2, least), NONE);
            }
        }
        CHECK.due("4 came", x.count(1), 4);
        CHECK.due("by the greatest", x.of(2, 0), 500);
    }

    /** Promise 3: "NONE: no such .. EVENTS": an event can be named as soon as it is there. */
    private static void eventsOfActivities() {
        DelayDesk x = pairs(1);
        for (int e : new int[] {LEAST_INT, -2, -1, 2, 59, 60, GREATEST_INT}) {
            CHECK.due("from " + e, x.activity(0, e, 0, 0), NONE);
            CHECK.due("to " + e, x.activity(0, 0, e, 0), NONE);
            CHECK.due("both " + e, x.activity(0, e, e, 0), NONE);
        }
        x.event(0, 3);
        CHECK.due("from 2 now", x.activity(0, 2, 0, 0), 0);
        CHECK.due("to 2 now", x.activity(1, 0, 2, 0), 1);
        CHECK.due("begins", x.look(0, 1), 2);
        CHECK.due("ends", x.look(1, 2), 2);
    }

    private static void lastEventsOfActivities() {
        DelayDesk x = sixty();
        CHECK.due("from 59", x.activity(3, 59, 0, 1), 0);
        CHECK.due("to 59", x.activity(0, 43, 59, 1), 1);
        CHECK.due("from 60", x.activity(3, 60, 0, 1), NONE);
        CHECK.due("to 60", x.activity(3, 0, 60, 1), NONE);
        CHECK.due("59 at its beginning", x.look(0, 1), 59);
        CHECK.due("59 at its end", x.look(1, 2), 59);
        CHECK.due("59 is held back", x.of(59, 0), 1);
        CHECK.due("0 is held back by it", x.of(0, 0), 2);
    }

    /** Promise 3: "NONE: .. EVENTS (one and the same". */
    private static void oneAndTheSame() {
        DelayDesk x = pairs(2);
        for (int kind = 0; kind <= 4; kind++) {
            for (int e = 0; e < 4; e++) {
                CHECK.due("one and the same " + e + ", kind " + kind, x.activity(kind, e, e, 0), NONE);
            }
        }
        CHECK.due("none came", x.count(1), 0);
    }

    /** Promise 3: "TRAINS that do not fit the KIND": one train for 0 and 1, two trains for 2, 3 and 4. */
    private static void trainsThatFitTheKind() {
        DelayDesk x = pairs(2);
        int made = 0;
        for (int kind = 0; kind <= 4; kind++) {
            boolean within = kind <= 1;
            CHECK.due("within a train, kind " + kind, x.activity(kind, 2, 3, 0), within ? made++ : NONE);
            CHECK.due("back within a train, kind " + kind, x.activity(kind, 3, 2, 0), within ? made++ : NONE);
            CHECK.due("of two trains, kind " + kind, x.activity(kind, 1, 2, 0), within ? NONE : made++);
            CHECK.due("back of two trains, kind " + kind, x.activity(kind, 2, 1, 0), within ? NONE : made++);
        }
        CHECK.due("10 came", x.count(1), 10);
    }

    /** Promise 3: "NONE: .. or 100 are there". */
    private static void hundredActivities() {
        DelayDesk x = pairs(2);
        for (int a = 0; a < 100; a++) {
            CHECK.due("activity " + a, x.activity(a % 5, 0, a % 5 <= 1 ? 1 : 2, a), a);
        }
        for (int kind = 0; kind <= 4; kind++) {
            CHECK.due("one too many, kind " + kind, x.activity(kind, 0, kind <= 1 ? 1 : 2, 0), NONE);
        }
        x.cancel(0, true);
        CHECK.due("one too many, none is there", x.activity(0, 2, 3, 0), NONE);
        CHECK.due("100 came", x.count(1), 100);
        CHECK.due("least of the last", x.look(99, 3), 99);
        CHECK.due("kind of the last", x.look(99, 0), 4);
    }

    private static void refusedActivitiesTakeNoNumber() {
        DelayDesk x = pairs(2);
        x.activity(0, 0, 2, 5);
        CHECK.due("the first", x.activity(4, 0, 2, 6), 0);
        x.activity(4, 0, 2, 501);
        CHECK.due("the second", x.activity(2, 1, 3, 7), 1);
        CHECK.due("least of the first", x.look(0, 3), 6);
        CHECK.due("least of the second", x.look(1, 3), 7);
    }

    /** Promise 3: "(a CHANGE is KEPT)", and part 1: "all others are always KEPT". */
    private static void newChangesAreKept() {
        DelayDesk x = pairs(2);
        for (int kind = 0; kind <= 4; kind++) {
            x.activity(kind, 0, kind <= 1 ? 1 : 3, 0);
            CHECK.due("kept, kind " + kind, x.look(kind, 4), 1);
        }
        CHECK.due("one change is kept", x.count(3), 1);
        x.keep(2, false);
        x.activity(2, 1, 2, 0);
        CHECK.due("a new one after a broken one", x.look(5, 4), 1);
        CHECK.due("the broken one", x.look(2, 4), 0);
    }

    /** Promise 4: "false: no such one" (EVENT). */
    private static void sourcesOfEvents() {
        DelayDesk x = pairs(1);
        for (int e : new int[] {LEAST_INT, -2, -1, 2, 59, 60, GREATEST_INT}) {
            CHECK.due("source of " + e, x.source(e, 1), false);
        }
        CHECK.due("none late", x.count(4), 0);
        DelayDesk y = sixty();
        CHECK.due("source of 0", y.source(0, 1), true);
        CHECK.due("source of 59", y.source(59, 2), true);
        CHECK.due("source of 60", y.source(60, 3), false);
        CHECK.due("59 is late", y.of(59, 1), 2);
        CHECK.due("two are late", y.count(4), 2);
    }

    /** Promise 4: "false: no such .. minutes" (0 to 500). */
    private static void minutesOfSources() {
        DelayDesk x = pairs(1);
        for (int minutes : new int[] {0, 1, 499, 500}) {
            CHECK.due("minutes " + minutes, x.source(1, minutes), true);
            CHECK.due("source told " + minutes, x.of(1, 3), minutes);
            CHECK.due("late " + minutes, x.of(1, 1), minutes);
        }
        for (int minutes : new int[] {LEAST_INT, -500, -1, 501, 502, GREATEST_INT}) {
            CHECK.due("minutes " + minutes, x.source(1, minutes), false);
            CHECK.due("the source stays", x.of(1, 3), 500);
        }
    }

    private static void sourcesTakeThePlaceOfThoseBefore() {
        DelayDesk x = pairs(1);
        x.source(0, 300);
        CHECK.due("another one", x.source(0, 400), true);
        CHECK.due("not both", x.of(0, 1), 400);
        CHECK.due("the same one", x.source(0, 400), true);
        CHECK.due("as it was", x.of(0, 1), 400);
        CHECK.due("none", x.source(0, 0), true);
        CHECK.due("as planned", x.of(0, 1), 0);
    }

    /** Promise 5: "false: it is none" (no CHANGE, or no ACTIVITY at all). */
    private static void keepIsForChanges() {
        DelayDesk x = pairs(2);
        for (int kind = 0; kind <= 4; kind++) {
            x.activity(kind, 0, kind <= 1 ? 1 : 2, 0);
        }
        for (int a : new int[] {LEAST_INT, -2, -1, 0, 1, 3, 4, 5, 99, 100, GREATEST_INT}) {
            CHECK.due("keep " + a, x.keep(a, true), false);
            CHECK.due("break " + a, x.keep(a, false), false);
        }
        for (int a = 0; a <= 4; a++) {
            CHECK.due("still kept " + a, x.look(a, 4), 1);
        }
        CHECK.due("the change", x.keep(2, false), true);
    }

    /** Promise 5: "false: .. or is so already". */
    private static void keepOfWhatIsSoAlready() {
        DelayDesk x = pairs(2);
        x.activity(2, 0, 2, 50);
        CHECK.due("kept already", x.keep(0, true), false);
        CHECK.due("still kept", x.look(0, 4), 1);
        CHECK.due("broken", x.keep(0, false), true);
        CHECK.due("broken already", x.keep(0, false), false);
        CHECK.due("still broken", x.look(0, 4), 0);
        CHECK.due("holds nothing back", x.of(2, 1), 0);
        CHECK.due("kept again", x.keep(0, true), true);
        CHECK.due("kept again already", x.keep(0, true), false);
        CHECK.due("holds back", x.of(2, 1), 30);
        x.cancel(1, true);
        CHECK.due("not there: kept already", x.keep(0, true), false);
        CHECK.due("not there: broken", x.keep(0, false), true);
        CHECK.due("not there: broken already", x.keep(0, false), false);
    }

    private static void keepOfTheLastActivity() {
        DelayDesk x = pairs(2);
        for (int a = 0; a < 100; a++) {
            x.activity(2, 1, 2, 0);
        }
        CHECK.due("break 99", x.keep(99, false), true);
        CHECK.due("break 100", x.keep(100, false), false);
        CHECK.due("99 is broken", x.look(99, 4), 0);
        CHECK.due("all the others are kept", x.count(3), 99);
        CHECK.due("break 0", x.keep(0, false), true);
        CHECK.due("98 are kept", x.count(3), 98);
    }

    /** Promise 6: "false: it is none" (no HEADWAY, or no ACTIVITY at all). */
    private static void turnIsForHeadways() {
        DelayDesk x = pairs(2);
        for (int kind = 0; kind <= 4; kind++) {
            x.activity(kind, 0, kind <= 1 ? 1 : 2, 0);
        }
        for (int a : new int[] {LEAST_INT, -2, -1, 0, 1, 2, 4, 5, 99, 100, GREATEST_INT}) {
            CHECK.due("turn " + a, x.turn(a), false);
        }
        for (int a = 0; a <= 4; a++) {
            CHECK.due("begins as before " + a, x.look(a, 1), 0);
            CHECK.due("ends as before " + a, x.look(a, 2), a <= 1 ? 1 : 2);
        }
        CHECK.due("the headway", x.turn(3), true);
        CHECK.due("begins at its end", x.look(3, 1), 2);
        CHECK.due("ends at its beginning", x.look(3, 2), 0);
    }

    private static void turnOfTheLastActivity() {
        DelayDesk x = pairs(2);
        for (int a = 0; a < 100; a++) {
            x.activity(3, 1, 2, 0);
        }
        CHECK.due("turn 100", x.turn(100), false);
        CHECK.due("turn 99", x.turn(99), true);
        CHECK.due("99 is turned", x.look(99, 1), 2);
        CHECK.due("98 is not", x.look(98, 1), 1);
        CHECK.due("10 later than planned", x.of(1, 0), 20);
    }

    private static void turnTwice() {
        DelayDesk x = pairs(2);
        x.activity(3, 1, 2, 10);
        CHECK.due("slack", x.look(0, 6), 0);
        CHECK.due("turn", x.turn(0), true);
        CHECK.due("slack the other way", x.look(0, 6), -20);
        CHECK.due("held back the other way", x.of(1, 1), 20);
        CHECK.due("turn again", x.turn(0), true);
        CHECK.due("slack as before", x.look(0, 6), 0);
        CHECK.due("as before", x.of(1, 1), 0);
        x.cancel(0, true);
        CHECK.due("turn of one not there", x.turn(0), true);
        CHECK.due("it is turned", x.look(0, 1), 2);
    }

    /** Promise 7: "false: no such one" (TRAIN, 0 to 15). */
    private static void cancelledTrains() {
        DelayDesk x = new DelayDesk();
        for (int train : new int[] {LEAST_INT, -16, -1, 16, 17, GREATEST_INT}) {
            CHECK.due("cancel " + train, x.cancel(train, true), false);
            CHECK.due("there again " + train, x.cancel(train, false), false);
        }
        CHECK.due("none is cancelled", x.count(6), 0);
        CHECK.due("cancel 0", x.cancel(0, true), true);
        CHECK.due("cancel 15", x.cancel(15, true), true);
        CHECK.due("two are cancelled", x.count(6), 2);
    }

    /** Promise 7: "false: .. or is so already". */
    private static void cancelOfWhatIsSoAlready() {
        DelayDesk x = pairs(2);
        for (int train : new int[] {0, 1, 15}) {
            CHECK.due("there already " + train, x.cancel(train, false), false);
            CHECK.due("cancelled " + train, x.cancel(train, true), true);
            CHECK.due("cancelled already " + train, x.cancel(train, true), false);
            CHECK.due("one is cancelled", x.count(6), 1);
            CHECK.due("there again " + train, x.cancel(train, false), true);
            CHECK.due("there again already " + train, x.cancel(train, false), false);
            CHECK.due("none is cancelled", x.count(6), 0);
        }
    }

    /** Part 1: "its EVENTS are not there, nor any ACTIVITY from or to them". */
    private static void allTrainsCancelled() {
        DelayDesk x = sixty();
        x.activity(3, 0, 1, 9);
        x.activity(3, 1, 0, 9);
        x.source(0, 7);
        x.group(3, 0, NONE, NONE, 0, 11);
        CHECK.due("a ring", x.spread(), 0);
        for (int train = 0; train < 16; train++) {
            CHECK.due("cancel " + train, x.cancel(train, true), true);
        }
        CHECK.due("16 are cancelled", x.count(6), 16);
        CHECK.due("nothing is there to ring", x.spread(), 1);
        CHECK.due("no ring", x.ring(0), NONE);
        CHECK.due("none late", x.count(4), 0);
        CHECK.due("no minutes late", x.count(5), 0);
        CHECK.due("none to recover", x.recover(), NONE);
        CHECK.due("no minutes", x.of(0, 0), NONE);
        CHECK.due("no lateness", x.of(0, 1), NONE);
        CHECK.due("its source all the same", x.of(0, 3), 7);
        CHECK.due("it does not bind", x.look(0, 5), 0);
        CHECK.due("its slack all the same", x.look(0, 6), -9);
        CHECK.due("they wait", x.cost(), 33);
        CHECK.due("no way", x.way(0, 0), NONE);
        CHECK.due("no cause", x.cause(1), NONE);
        CHECK.due("nothing to choose", x.choose(), 33);
    }

    /** An activity whose beginning and end are cancelled both is there only when both are there again. */
    private static void cancelledTwiceOver() {
        DelayDesk x = pairs(2);
        x.activity(3, 1, 2, 500);
        x.cancel(0, true);
        x.cancel(1, true);
        x.cancel(0, false);
        CHECK.due("its end is not there", x.of(2, 0), NONE);
        CHECK.due("it does not bind", x.look(0, 5), 0);
        x.cancel(0, true);
        x.cancel(1, false);
        CHECK.due("its beginning is not there", x.of(2, 0), 20);
        CHECK.due("it does not bind", x.look(0, 5), 0);
        x.cancel(0, false);
        CHECK.due("both are there", x.of(2, 0), 510);
        CHECK.due("it binds", x.look(0, 5), 1);
    }

    /** Promise 8: "no such number" (so many, 1 to 1000). */
    private static void howManyTravel() {
        DelayDesk x = pairs(1);
        int[] allowed = {1, 2, 999, 1000};
        for (int g = 0; g < allowed.length; g++) {
            CHECK.due("so many " + allowed[g], x.group(allowed[g], 0, NONE, NONE, 1, 0), g);
            CHECK.due("so many told " + allowed[g], x.told(g, 2), allowed[g]);
        }
        for (int many : new int[] {LEAST_INT, -1000, -1, 0, 1001, 1002, GREATEST_INT}) {
            CHECK.due("so many " + many, x.group(many, 0, NONE, NONE, 1, 0), NONE);
        }
        CHECK.due("4 came", x.count(2), 4);
    }

    /** Promise 8: "NONE: .. WAITING" (0 to 1000). */
    private static void howLongTheyWait() {
        DelayDesk x = pairs(1);
        x.cancel(0, true);
        int[] allowed = {0, 1, 999, 1000};
        for (int g = 0; g < allowed.length; g++) {
            CHECK.due("waiting " + allowed[g], x.group(1, 0, NONE, NONE, 1, allowed[g]), g);
            CHECK.due("waiting told " + allowed[g], x.told(g, 0), allowed[g]);
        }
        for (int waiting : new int[] {LEAST_INT, -1000, -1, 1001, 1002, GREATEST_INT}) {
            CHECK.due("waiting " + waiting, x.group(1, 0, NONE, NONE, 1, waiting), NONE);
        }
        CHECK.due("4 came", x.count(2), 4);
    }

    /** Promise 8: "NONE: .. EVENTS". */
    private static void firstAndLastEvents() {
        DelayDesk x = pairs(2);
        x.activity(2, 1, 2, 0);
        for (int e : new int[] {LEAST_INT, -2, -1, 4, 59, 60, GREATEST_INT}) {
            CHECK.due("first " + e, x.group(1, e, NONE, NONE, 1, 0), NONE);
            CHECK.due("last " + e, x.group(1, 0, NONE, NONE, e, 0), NONE);
            CHECK.due("both " + e, x.group(1, e, NONE, NONE, e, 0), NONE);
            CHECK.due("first before a change " + e, x.group(1, e, 0, NONE, 3, 0), NONE);
            CHECK.due("last after a change " + e, x.group(1, 0, 0, NONE, e, 0), NONE);
        }
        CHECK.due("none came", x.count(2), 0);
    }

    private static void lastEventsOfGroups() {
        DelayDesk x = sixty();
        CHECK.due("first 59", x.group(1, 59, NONE, NONE, 11, 0), 0);
        CHECK.due("last 59", x.group(1, 43, NONE, NONE, 59, 0), 1);
        CHECK.due("first 60", x.group(1, 60, NONE, NONE, 11, 0), NONE);
        CHECK.due("last 60", x.group(1, 43, NONE, NONE, 60, 0), NONE);
        x.source(59, 4);
        CHECK.due("late at 11", x.told(0, 0), 0);
        CHECK.due("late at 59", x.told(1, 0), 4);
    }

    /** Promise 8: "(b NONE: one at most; a NONE: none)", and part 2: "three TRAINS at most". */
    private static void noChangeOneTwo() {
        DelayDesk x = pairs(3);
        x.activity(2, 1, 2, 0);
        x.activity(2, 3, 4, 0);
        CHECK.due("none", x.group(1, 0, NONE, NONE, 1, 0), 0);
        CHECK.due("one", x.group(1, 0, 0, NONE, 3, 0), 1);
        CHECK.due("two", x.group(1, 0, 0, 1, 5, 0), 2);
        CHECK.due("b without a", x.group(1, 2, NONE, 1, 5, 0), NONE);
        CHECK.due("b without a, to the same train", x.group(1, 2, NONE, 1, 3, 0), NONE);
        CHECK.due("b without a, one that is no change", x.group(1, 2, NONE, 5, 3, 0), NONE);
        CHECK.due("one, but as far as two go", x.group(1, 0, 0, NONE, 5, 0), NONE);
        CHECK.due("none, but as far as one goes", x.group(1, 0, NONE, NONE, 3, 0), NONE);
        CHECK.due("3 came", x.count(2), 3);
    }

    /** Promise 8: "NONE: .. CHANGES": numbers of no activity, and activities that are no CHANGES. */
    private static void changesOfGroups() {
        DelayDesk x = pairs(2);
        x.activity(2, 1, 2, 0);
        x.activity(3, 1, 2, 0);
        x.activity(4, 1, 2, 0);
        x.activity(0, 0, 1, 0);
        x.activity(1, 2, 3, 0);
        x.activity(2, 3, 0, 0);
        for (int a : new int[] {LEAST_INT, -2, 1, 2, 3, 4, 6, 99, 100, GREATEST_INT}) {
            CHECK.due("a " + a, x.group(1, 0, a, NONE, 3, 0), NONE);
            CHECK.due("a within the train " + a, x.group(1, 0, a, NONE, 1, 0), NONE);
            CHECK.due("b " + a, x.group(1, 0, 0, a, 3, 0), NONE);
            CHECK.due("a before b " + a, x.group(1, 0, a, 5, 1, 0), NONE);
        }
        CHECK.due("none came", x.count(2), 0);
        CHECK.due("out and back", x.group(1, 0, 0, 5, 1, 0), 0);
        CHECK.due("back and out", x.group(1, 2, 5, 0, 3, 0), 1);
    }

    private static void lastChangeOfGroups() {
        DelayDesk x = pairs(3);
        for (int a = 0; a < 99; a++) {
            x.activity(2, 1, 2, 0);
        }
        x.activity(2, 3, 4, 0);
        CHECK.due("a 98", x.group(1, 0, 98, NONE, 3, 0), 0);
        CHECK.due("a 99", x.group(1, 2, 99, NONE, 5, 0), 1);
        CHECK.due("b 99", x.group(1, 0, 98, 99, 5, 0), 2);
        CHECK.due("a 100", x.group(1, 0, 100, NONE, 3, 0), NONE);
        CHECK.due("b 100", x.group(1, 0, 98, 100, 5, 0), NONE);
    }

    /** Promise 8: "or they do not fit": "each EVENT at which it leaves is of the TRAIN of the one at which it came". */
    private static void trainsThatFit() {
        DelayDesk x = pairs(4);
        x.activity(2, 1, 2, 0);
        x.activity(2, 3, 4, 0);
        for (int first = 0; first < 8; first++) {
            for (int last = 0; last < 8; last++) {
                String at = " from " + first + " to " + last;
                boolean none = first / 2 == last / 2 && first != last;
                if (first != last) {
                    CHECK.due("no change" + at, new Trial(x).group(first, NONE, NONE, last), none);
                }
                CHECK.due("one change" + at, new Trial(x).group(first, 0, NONE, last), first <= 1 && last / 2 == 1);
                CHECK.due("two changes" + at, new Trial(x).group(first, 0, 1, last), first <= 1 && last / 2 == 2);
                CHECK.due("the other first" + at, new Trial(x).group(first, 1, 0, last), false);
                CHECK.due("one twice" + at, new Trial(x).group(first, 0, 0, last), false);
            }
        }
    }

    /** Whether a group is taken by a desk like this one, of four trains with changes from each to the next. */
    private static final class Trial {
        private final DelayDesk like;

        Trial(DelayDesk x) {
            like = pairs(x.count(0) / 2);
            for (int a = 0; a < x.count(1); a++) {
                like.activity(x.look(a, 0), x.look(a, 1), x.look(a, 2), x.look(a, 3));
            }
        }

        boolean group(int first, int a, int b, int last) {
            int number = like.group(1, first, a, b, last, 0);
            CHECK.due("the number tells the same", like.count(2), number == NONE ? 0 : 1);
            return number == 0;
        }
    }

    /** Promise 8: "NONE: 30 are there". */
    private static void thirtyGroups() {
        DelayDesk x = pairs(2);
        x.activity(2, 1, 2, 0);
        for (int g = 0; g < 30; g++) {
            CHECK.due("group " + g, x.group(1 + g, 0, g % 2 == 0 ? NONE : 0, NONE, g % 2 == 0 ? 1 : 3, g), g);
        }
        CHECK.due("one too many", x.group(1, 0, NONE, NONE, 1, 0), NONE);
        CHECK.due("one too many, with a change", x.group(1, 0, 0, NONE, 3, 0), NONE);
        x.cancel(0, true);
        CHECK.due("one too many, none can go", x.group(1, 0, NONE, NONE, 1, 0), NONE);
        CHECK.due("30 came", x.count(2), 30);
        CHECK.due("how many in the last", x.told(29, 2), 30);
        CHECK.due("how long the last wait", x.told(29, 0), 29);
    }

    private static void refusedGroupsTakeNoNumber() {
        DelayDesk x = pairs(1);
        x.group(0, 0, NONE, NONE, 1, 0);
        CHECK.due("the first", x.group(8, 0, NONE, NONE, 1, 0), 0);
        x.group(9, 0, NONE, NONE, 1, 1001);
        CHECK.due("the second", x.group(7, 0, NONE, NONE, 1, 0), 1);
        CHECK.due("how many in the first", x.told(0, 2), 8);
        CHECK.due("how many in the second", x.told(1, 2), 7);
    }

    /** Part 2: "All memory is the desk's own." */
    private static void memoryIsTheDesksOwn() {
        DelayDesk x = pairs(2);
        DelayDesk y = pairs(2);
        x.activity(2, 1, 2, 50);
        y.activity(2, 1, 2, 50);
        x.source(0, 5);
        x.cancel(3, true);
        x.keep(0, false);
        x.group(1, 0, NONE, NONE, 1, 0);
        CHECK.due("its own sources", y.of(0, 3), 0);
        CHECK.due("its own cancelled trains", y.count(6), 0);
        CHECK.due("its own broken changes", y.look(0, 4), 1);
        CHECK.due("its own groups", y.count(2), 0);
        CHECK.due("its own minutes", y.of(2, 1), 40);
        CHECK.due("the other's minutes", x.of(2, 1), 0);
        y.event(5, 5);
        CHECK.due("its own events", x.count(0), 4);
    }
}
