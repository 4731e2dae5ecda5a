/** Promises 9 to 14, 19 and 20: the spread, causes, ways, rings, and what is counted. */
public final class SpreadTest {
    private static final Check CHECK = new Check();

    public static void main(String[] args) {
        spreadAndLateness();
        wrongQuestions();
        binding();
        brokenChangesBindToo();
        causes();
        causesNeedLateBeginnings();
        waysThatTurnRound();
        longWay();
        rings();
        ringsOfLikeSize();
        zeroRingsAreNoRings();
        ringOfAllEvents();
        withoutSpread();
        counts();
        recovery();
        CHECK.end();
    }

    private static DelayDesk withEvents(int number, int plan) {
        DelayDesk x = new DelayDesk();
        for (int e = 0; e < number; e++) {
            x.event(e % 16, plan);
        }
        return x;
    }

    private static void spreadAndLateness() {
        DelayDesk x = new DelayDesk();
        x.event(0, 100);
        x.event(0, 120);
        x.event(0, 140);
        x.activity(0, 0, 1, 15);
        x.activity(0, 1, 2, 20);
        CHECK.due("spread", x.spread(), 1);
        CHECK.due("as planned", x.of(2, 1), 0);
        x.source(0, 12);
        x.source(1, 3);
        CHECK.due("own minutes", x.of(0, 0), 112);
        CHECK.due("slack takes some", x.of(1, 0), 127);
        CHECK.due("late", x.of(1, 1), 7);
        CHECK.due("late on", x.of(2, 1), 7);
        x.source(1, 8);
        CHECK.due("source above what comes", x.of(1, 1), 8);
    }

    private static void wrongQuestions() {
        DelayDesk x = new DelayDesk();
        x.event(0, 5);
        x.event(1, 5);
        x.activity(2, 0, 1, 2);
        x.source(0, 1);
        CHECK.due("of: what 5", x.of(0, 5), -1);
        CHECK.due("of: what -1", x.of(0, -1), -1);
        CHECK.due("of: event 2", x.of(2, 2), -1);
        CHECK.due("of: event -1", x.of(-1, 2), -1);
        CHECK.due("look: what 7", x.look(0, 7), -1);
        CHECK.due("look: what -1", x.look(0, -1), -1);
        CHECK.due("look: activity 1", x.look(1, 5), -1);
        CHECK.due("look: activity -1", x.look(-1, 5), -1);
        CHECK.due("cause: event 2", x.cause(2), -1);
        CHECK.due("cause: event -1", x.cause(-1), -1);
        CHECK.due("way: event 2", x.way(2, 0), -1);
        CHECK.due("way: event -1", x.way(-1, 0), -1);
        CHECK.due("way: i -1", x.way(1, -1), -1);
        CHECK.due("way: i 2", x.way(1, 2), -1);
        CHECK.due("way: i far off", x.way(1, Integer.MAX_VALUE), -1);
        CHECK.due("ring: with a spread", x.ring(0), -1);
        CHECK.due("count: 8", x.count(8), -1);
        CHECK.due("count: -1", x.count(-1), -1);
    }

    private static void binding() {
        DelayDesk x = new DelayDesk();
        x.event(0, 10);
        x.event(1, 20);
        x.activity(3, 0, 1, 10);
        CHECK.due("just so, but not late", x.look(0, 5), 0);
        x.source(0, 4);
        CHECK.due("it binds", x.look(0, 5), 1);
        x.source(1, 4);
        CHECK.due("not more than the source", x.look(0, 5), 0);
        CHECK.due("so it is a first one", x.cause(1), -1);
        x.source(1, 3);
        CHECK.due("more than the source", x.look(0, 5), 1);
        CHECK.due("so it has a cause", x.cause(1), 0);
        x.cancel(0, true);
        CHECK.due("not there", x.look(0, 5), 0);
        CHECK.due("late by its own", x.of(1, 1), 3);
        CHECK.due("a first one", x.cause(1), -1);
    }

    /** The words of the document ask no KEPT of an activity that binds. */
    private static void brokenChangesBindToo() {
        DelayDesk x = new DelayDesk();
        x.event(0, 10);
        x.event(1, 10);
        x.activity(2, 0, 1, 0);
        x.activity(3, 0, 1, 0);
        x.source(0, 5);
        x.keep(0, false);
        CHECK.due("broken, but just so", x.look(0, 5), 1);
        CHECK.due("the lowest that binds", x.cause(1), 0);
    }

    private static void causes() {
        DelayDesk x = withEvents(4, 10);
        x.activity(3, 0, 3, 2);
        x.activity(3, 1, 3, 5);
        x.activity(3, 2, 3, 5);
        x.source(0, 3);
        x.source(1, 3);
        x.source(2, 3);
        CHECK.due("the lowest of like ones", x.cause(3), 1);
        CHECK.due("the other binds too", x.look(2, 5), 1);
        CHECK.due("the short one does not", x.look(0, 5), 0);
        x.source(2, 4);
        CHECK.due("the later one", x.cause(3), 2);
        CHECK.due("way: itself", x.way(3, 0), 3);
        CHECK.due("way: first one", x.way(3, 1), 2);
        CHECK.due("way: its end", x.way(3, 2), -1);
        CHECK.due("first ones have no cause", x.cause(2), -1);
        x.cancel(3, true);
        CHECK.due("not there", x.cause(3), -1);
        CHECK.due("no way", x.way(3, 0), -1);
    }

    private static void causesNeedLateBeginnings() {
        DelayDesk x = withEvents(3, 10);
        x.activity(3, 0, 2, 4);
        CHECK.due("plans that do not fit bind", x.look(0, 5), 1);
        CHECK.due("but are no cause", x.cause(2), -1);
        CHECK.due("a first one is on its way", x.way(2, 0), 2);
        CHECK.due("alone", x.way(2, 1), -1);
        x.activity(3, 1, 2, 1);
        x.source(1, 3);
        CHECK.due("the one whose beginning is late", x.cause(2), 1);
    }

    private static void waysThatTurnRound() {
        DelayDesk x = withEvents(3, 10);
        x.activity(3, 0, 1, 0);
        x.activity(3, 1, 0, 0);
        x.activity(3, 2, 0, 0);
        x.source(2, 6);
        CHECK.due("no ring of zeros", x.spread(), 1);
        CHECK.due("each by the other", x.cause(0), 1);
        CHECK.due("each by the other", x.cause(1), 0);
        CHECK.due("way", x.way(0, 1), 1);
        CHECK.due("ends before it comes again", x.way(0, 2), -1);
        CHECK.due("way", x.way(1, 1), 0);
        CHECK.due("ends before it comes again", x.way(1, 2), -1);
    }

    private static void longWay() {
        DelayDesk x = withEvents(60, 10);
        for (int e = 0; e < 59; e++) {
            x.activity(3, e + 1, e, 500);
        }
        CHECK.due("the greatest minutes", x.of(0, 0), 10 + 59 * 500);
        CHECK.due("recover", x.recover(), 10 + 59 * 500);
        CHECK.due("the whole way", x.way(0, 58), 58);
        CHECK.due("the last is not late", x.way(0, 59), -1);
        x.source(59, 500);
        CHECK.due("the last is late", x.way(0, 59), 59);
        CHECK.due("no farther", x.way(0, 60), -1);
        CHECK.due("sum", x.count(5), 500 * (60 * 61 / 2));
    }

    private static void rings() {
        DelayDesk x = withEvents(4, 10);
        x.activity(3, 2, 3, 1);
        x.activity(3, 3, 1, 0);
        x.activity(2, 0, 2, 0);
        x.activity(3, 1, 0, 0);
        CHECK.due("no spread", x.spread(), 0);
        CHECK.due("from its lowest on", x.ring(0), 0);
        CHECK.due("in the way it goes", x.ring(1), 1);
        CHECK.due("in the way it goes", x.ring(2), 3);
        CHECK.due("in the way it goes", x.ring(3), 2);
        CHECK.due("its end", x.ring(4), -1);
        CHECK.due("before it", x.ring(-1), -1);
        x.activity(3, 3, 2, 0);
        CHECK.due("a shorter one", x.ring(1), 4);
        CHECK.due("its end", x.ring(2), -1);
        x.cancel(3, true);
        CHECK.due("not there: no ring", x.ring(0), -1);
        CHECK.due("a spread", x.spread(), 1);
        x.cancel(3, false);
        x.turn(0);
        CHECK.due("turned: no ring", x.ring(0), -1);
        x.turn(0);
        x.keep(2, false);
        CHECK.due("the longer one is broken", x.ring(1), 4);
    }

    private static void ringsOfLikeSize() {
        DelayDesk x = withEvents(4, 10);
        x.activity(3, 0, 1, 0);
        x.activity(3, 1, 0, 0);
        x.activity(3, 2, 3, 0);
        x.activity(3, 3, 2, 0);
        x.activity(3, 1, 0, 7);
        x.activity(3, 3, 2, 7);
        CHECK.due("the least, number by number", x.ring(0), 0);
        CHECK.due("not the one of zeros", x.ring(1), 4);
        x.turn(4);
        CHECK.due("both the same way", x.ring(0), 1);
        CHECK.due("the one above 0", x.ring(1), 4);
        x.cancel(0, true);
        CHECK.due("the other pair", x.ring(0), 2);
        CHECK.due("the other pair", x.ring(1), 5);
    }

    private static void zeroRingsAreNoRings() {
        DelayDesk x = withEvents(3, 10);
        x.activity(3, 0, 1, 0);
        x.activity(3, 1, 0, 0);
        x.activity(3, 1, 2, 0);
        x.activity(3, 2, 0, 1);
        CHECK.due("no spread", x.spread(), 0);
        CHECK.due("the longer ring", x.ring(0), 0);
        CHECK.due("the longer ring", x.ring(1), 2);
        CHECK.due("the longer ring", x.ring(2), 3);
        CHECK.due("its end", x.ring(3), -1);
    }

    private static void ringOfAllEvents() {
        DelayDesk x = withEvents(60, 10);
        for (int e = 0; e < 59; e++) {
            x.activity(3, e, e + 1, 0);
        }
        CHECK.due("a chain", x.spread(), 1);
        x.activity(3, 59, 0, 1);
        CHECK.due("a ring of 60", x.spread(), 0);
        CHECK.due("its first", x.ring(0), 0);
        CHECK.due("its last", x.ring(59), 59);
        CHECK.due("its end", x.ring(60), -1);
    }

    private static void withoutSpread() {
        DelayDesk x = withEvents(3, 10);
        x.source(2, 5);
        x.activity(3, 0, 1, 0);
        x.activity(3, 1, 0, 1);
        x.group(3, 2, -1, -1, 2, 8);
        CHECK.due("spread", x.spread(), 0);
        CHECK.due("minutes", x.of(2, 0), -1);
        CHECK.due("late", x.of(2, 1), -1);
        CHECK.due("plan", x.of(2, 2), 10);
        CHECK.due("source", x.of(2, 3), 5);
        CHECK.due("train", x.of(2, 4), 2);
        CHECK.due("binds", x.look(0, 5), 0);
        CHECK.due("cause", x.cause(2), -1);
        CHECK.due("way", x.way(2, 0), -1);
        CHECK.due("told 0", x.told(0, 0), -1);
        CHECK.due("told 1", x.told(0, 1), -1);
        CHECK.due("told 2", x.told(0, 2), 3);
        CHECK.due("cost", x.cost(), -1);
        CHECK.due("choose", x.choose(), -1);
        CHECK.due("rule", x.rule(1000), 0);
        CHECK.due("recover", x.recover(), -1);
        CHECK.due("late events", x.count(4), 0);
        CHECK.due("late minutes", x.count(5), 0);
    }

    private static void counts() {
        DelayDesk x = withEvents(4, 10);
        x.activity(2, 0, 1, 3);
        x.activity(2, 1, 2, 0);
        x.activity(3, 2, 3, 1);
        x.group(1, 0, 0, -1, 1, 0);
        int[] due = {4, 3, 1, 2, 3, 10, 0, 2, -1};
        for (int what = 0; what < due.length; what++) {
            CHECK.due("count " + what, x.count(what), due[what]);
        }
        x.cancel(1, true);
        x.keep(1, false);
        int[] dueThen = {4, 3, 1, 1, 1, 1, 1, 2, -1};
        for (int what = 0; what < dueThen.length; what++) {
            CHECK.due("count then " + what, x.count(what), dueThen[what]);
        }
    }

    private static void recovery() {
        DelayDesk x = new DelayDesk();
        x.event(0, 100);
        x.event(1, 2000);
        CHECK.due("none late", x.recover(), -1);
        x.source(0, 3);
        CHECK.due("the late one", x.recover(), 103);
        x.source(1, 1);
        CHECK.due("the later one", x.recover(), 2001);
        x.cancel(1, true);
        CHECK.due("the one that is there", x.recover(), 103);
    }
}
