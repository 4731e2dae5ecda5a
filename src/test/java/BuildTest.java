/** Promises 1 to 8: a new desk, and what is put on it. */
public final class BuildTest {
    private static final Check CHECK = new Check();

    public static void main(String[] args) {
        newObject();
        events();
        fullOfEvents();
        activities();
        fullOfActivities();
        sources();
        keeps();
        turns();
        cancels();
        groups();
        groupsThatDoNotFit();
        fullOfGroups();
        desksAreTheirOwn();
        CHECK.end();
    }

    private static void newObject() {
        DelayDesk x = new DelayDesk();
        for (int what = 0; what <= 7; what++) {
            CHECK.due("new: count " + what, x.count(what), 0);
        }
        CHECK.due("new: spread", x.spread(), 1);
        CHECK.due("new: cost", x.cost(), 0);
        CHECK.due("new: choose", x.choose(), 0);
        CHECK.due("new: rule", x.rule(0), 0);
        CHECK.due("new: recover", x.recover(), -1);
        CHECK.due("new: ring", x.ring(0), -1);
        CHECK.due("new: of", x.of(0, 2), -1);
        CHECK.due("new: look", x.look(0, 6), -1);
        CHECK.due("new: told", x.told(0, 2), -1);
        CHECK.due("new: way", x.way(0, 0), -1);
        CHECK.due("new: cause", x.cause(0), -1);
    }

    private static void events() {
        DelayDesk x = new DelayDesk();
        CHECK.due("event", x.event(0, 0), 0);
        CHECK.due("event", x.event(15, 2000), 1);
        CHECK.due("event: train 16", x.event(16, 5), -1);
        CHECK.due("event: train -1", x.event(-1, 5), -1);
        CHECK.due("event: plan 2001", x.event(1, 2001), -1);
        CHECK.due("event: plan -1", x.event(1, -1), -1);
        CHECK.due("event: far off", x.event(Integer.MAX_VALUE, Integer.MIN_VALUE), -1);
        CHECK.due("refused ones change nothing", x.count(0), 2);
        CHECK.due("event: train", x.of(1, 4), 15);
        CHECK.due("event: plan", x.of(1, 2), 2000);
        CHECK.due("event: source", x.of(1, 3), 0);
        x.cancel(3, true);
        CHECK.due("event of a cancelled train", x.event(3, 7), 2);
        CHECK.due("it is not there", x.of(2, 0), -1);
        CHECK.due("it is told all the same", x.of(2, 2), 7);
    }

    private static void fullOfEvents() {
        DelayDesk x = new DelayDesk();
        for (int e = 0; e < 60; e++) {
            CHECK.due("event " + e, x.event(e % 16, e), e);
        }
        CHECK.due("the 61st event", x.event(0, 0), -1);
        CHECK.due("60 events", x.count(0), 60);
        CHECK.due("last event", x.of(59, 2), 59);
        CHECK.due("no event 60", x.of(60, 2), -1);
    }

    private static void activities() {
        DelayDesk x = new DelayDesk();
        x.event(0, 10);
        x.event(0, 20);
        x.event(1, 25);
        CHECK.due("run", x.activity(0, 0, 1, 0), 0);
        CHECK.due("stand", x.activity(1, 0, 1, 500), 1);
        CHECK.due("change", x.activity(2, 1, 2, 6), 2);
        CHECK.due("headway", x.activity(3, 2, 1, 1), 3);
        CHECK.due("turn", x.activity(4, 0, 2, 1), 4);
        for (int kind = 0; kind <= 1; kind++) {
            CHECK.due("of two trains, kind " + kind, x.activity(kind, 1, 2, 1), -1);
        }
        for (int kind = 2; kind <= 4; kind++) {
            CHECK.due("of one train, kind " + kind, x.activity(kind, 0, 1, 1), -1);
        }
        for (int kind = 0; kind <= 4; kind++) {
            CHECK.due("one and the same, kind " + kind, x.activity(kind, 2, 2, 1), -1);
        }
        CHECK.due("kind -1", x.activity(-1, 0, 1, 1), -1);
        CHECK.due("kind 5", x.activity(5, 0, 2, 1), -1);
        CHECK.due("least -1", x.activity(0, 0, 1, -1), -1);
        CHECK.due("least 501", x.activity(0, 0, 1, 501), -1);
        CHECK.due("from -1", x.activity(0, -1, 1, 1), -1);
        CHECK.due("from 3", x.activity(0, 3, 1, 1), -1);
        CHECK.due("to -1", x.activity(0, 0, -1, 1), -1);
        CHECK.due("to 3", x.activity(0, 0, 3, 1), -1);
        CHECK.due("refused ones change nothing", x.count(1), 5);
        CHECK.due("a change is kept", x.look(2, 4), 1);
        CHECK.due("slack", x.look(2, 6), -1);
        CHECK.due("kind", x.look(4, 0), 4);
        x.cancel(1, true);
        CHECK.due("of a cancelled train", x.activity(2, 1, 2, 0), 5);
    }

    private static void fullOfActivities() {
        DelayDesk x = new DelayDesk();
        x.event(0, 0);
        x.event(0, 9);
        for (int a = 0; a < 100; a++) {
            CHECK.due("activity " + a, x.activity(0, 0, 1, a), a);
        }
        CHECK.due("the 101st activity", x.activity(0, 0, 1, 0), -1);
        CHECK.due("100 activities", x.count(1), 100);
        CHECK.due("last activity", x.look(99, 3), 99);
        CHECK.due("no activity 100", x.look(100, 3), -1);
        CHECK.due("all of them count", x.of(1, 0), 99);
    }

    private static void sources() {
        DelayDesk x = new DelayDesk();
        x.event(0, 10);
        CHECK.due("source", x.source(0, 500), true);
        CHECK.due("source told", x.of(0, 3), 500);
        CHECK.due("source: 501", x.source(0, 501), false);
        CHECK.due("source: -1", x.source(0, -1), false);
        CHECK.due("source: event -1", x.source(-1, 1), false);
        CHECK.due("source: event 1", x.source(1, 1), false);
        CHECK.due("refused ones change nothing", x.of(0, 0), 510);
        CHECK.due("the same again", x.source(0, 500), true);
        CHECK.due("none again", x.source(0, 0), true);
        CHECK.due("as planned", x.of(0, 1), 0);
        x.cancel(0, true);
        CHECK.due("source of one not there", x.source(0, 4), true);
        CHECK.due("it is told", x.of(0, 3), 4);
    }

    private static void keeps() {
        DelayDesk x = new DelayDesk();
        x.event(0, 10);
        x.event(1, 10);
        x.event(0, 11);
        x.activity(2, 0, 1, 5);
        x.activity(3, 0, 1, 0);
        x.activity(0, 0, 2, 0);
        CHECK.due("kept already", x.keep(0, true), false);
        CHECK.due("broken", x.keep(0, false), true);
        CHECK.due("broken already", x.keep(0, false), false);
        CHECK.due("broken told", x.look(0, 4), 0);
        CHECK.due("a broken one holds nothing back", x.of(1, 0), 10);
        CHECK.due("kept again", x.keep(0, true), true);
        CHECK.due("a kept one does", x.of(1, 0), 15);
        CHECK.due("a headway", x.keep(1, false), false);
        CHECK.due("a run", x.keep(2, false), false);
        CHECK.due("a run stays kept", x.look(2, 4), 1);
        CHECK.due("activity 3", x.keep(3, false), false);
        CHECK.due("activity -1", x.keep(-1, false), false);
    }

    private static void turns() {
        DelayDesk x = new DelayDesk();
        x.event(0, 10);
        x.event(1, 12);
        x.event(0, 11);
        x.activity(3, 0, 1, 3);
        x.activity(2, 0, 1, 0);
        x.activity(4, 0, 1, 0);
        x.activity(0, 0, 2, 0);
        x.activity(1, 0, 2, 0);
        CHECK.due("held back", x.of(1, 0), 13);
        CHECK.due("turn", x.turn(0), true);
        CHECK.due("begins", x.look(0, 1), 1);
        CHECK.due("ends", x.look(0, 2), 0);
        CHECK.due("least stays", x.look(0, 3), 3);
        CHECK.due("slack is new", x.look(0, 6), -5);
        CHECK.due("a ring now", x.spread(), 0);
        CHECK.due("turn back", x.turn(0), true);
        CHECK.due("as before", x.of(1, 0), 13);
        for (int a = 1; a <= 5; a++) {
            CHECK.due("turn of " + a, x.turn(a), false);
        }
        CHECK.due("turn of -1", x.turn(-1), false);
        CHECK.due("a change stays", x.look(1, 1), 0);
    }

    private static void cancels() {
        DelayDesk x = new DelayDesk();
        x.event(0, 10);
        x.event(1, 10);
        x.event(2, 10);
        x.activity(3, 0, 1, 4);
        x.activity(3, 1, 2, 4);
        CHECK.due("held back", x.of(2, 0), 18);
        CHECK.due("cancel", x.cancel(1, true), true);
        CHECK.due("cancelled already", x.cancel(1, true), false);
        CHECK.due("not there", x.of(1, 0), -1);
        CHECK.due("held back no more", x.of(2, 0), 10);
        CHECK.due("one is cancelled", x.count(6), 1);
        CHECK.due("events are counted all the same", x.count(0), 3);
        CHECK.due("activities are counted all the same", x.count(1), 2);
        CHECK.due("there again", x.cancel(1, false), true);
        CHECK.due("there already", x.cancel(1, false), false);
        CHECK.due("held back again", x.of(2, 0), 18);
        CHECK.due("train 15 without events", x.cancel(15, true), true);
        CHECK.due("train 16", x.cancel(16, true), false);
        CHECK.due("train -1", x.cancel(-1, true), false);
        CHECK.due("train 15 only", x.count(6), 1);
    }

    /** Trains 0, 1, 2 with two events each, and changes 0 to 1 to 2. */
    private static DelayDesk threeTrains() {
        DelayDesk x = new DelayDesk();
        for (int train = 0; train < 3; train++) {
            x.event(train, 10 + 30 * train);
            x.event(train, 30 + 30 * train);
        }
        x.activity(2, 1, 2, 4);
        x.activity(2, 3, 4, 4);
        x.activity(3, 1, 2, 1);
        return x;
    }

    private static void groups() {
        DelayDesk x = threeTrains();
        CHECK.due("no change", x.group(1, 0, -1, -1, 1, 0), 0);
        CHECK.due("one change", x.group(1000, 0, 0, -1, 3, 1000), 1);
        CHECK.due("two changes", x.group(5, 1, 0, 1, 5, 9), 2);
        CHECK.due("off where it gets on", x.group(5, 1, 0, 1, 4, 9), 3);
        CHECK.due("one EVENT", x.group(5, 1, -1, -1, 1, 9), 4);
        CHECK.due("none", x.group(0, 0, -1, -1, 1, 0), -1);
        CHECK.due("1001", x.group(1001, 0, -1, -1, 1, 0), -1);
        CHECK.due("waiting -1", x.group(1, 0, -1, -1, 1, -1), -1);
        CHECK.due("waiting 1001", x.group(1, 0, -1, -1, 1, 1001), -1);
        CHECK.due("refused ones change nothing", x.count(2), 5);
        CHECK.due("how many", x.told(1, 2), 1000);
    }

    private static void groupsThatDoNotFit() {
        DelayDesk x = threeTrains();
        CHECK.due("first -1", x.group(1, -1, -1, -1, 1, 0), -1);
        CHECK.due("first 6", x.group(1, 6, -1, -1, 1, 0), -1);
        CHECK.due("last -1", x.group(1, 0, -1, -1, -1, 0), -1);
        CHECK.due("last 6", x.group(1, 0, -1, -1, 6, 0), -1);
        CHECK.due("b without a", x.group(1, 0, -1, 0, 3, 0), -1);
        CHECK.due("b without a, trains fit", x.group(1, 0, -1, 0, 1, 0), -1);
        CHECK.due("a headway", x.group(1, 0, 2, -1, 3, 0), -1);
        CHECK.due("a is 3", x.group(1, 0, 3, -1, 3, 0), -1);
        CHECK.due("a is -2", x.group(1, 0, -2, -1, 1, 0), -1);
        CHECK.due("b is 3", x.group(1, 0, 0, 3, 3, 0), -1);
        CHECK.due("b is -2", x.group(1, 0, 0, -2, 3, 0), -1);
        CHECK.due("another train, none", x.group(1, 0, -1, -1, 2, 0), -1);
        CHECK.due("first of another train", x.group(1, 2, 0, -1, 3, 0), -1);
        CHECK.due("last of another train", x.group(1, 0, 0, -1, 1, 0), -1);
        CHECK.due("b from another train", x.group(1, 0, 0, 0, 3, 0), -1);
        CHECK.due("last before b", x.group(1, 0, 0, 1, 3, 0), -1);
        CHECK.due("none came", x.count(2), 0);
    }

    private static void fullOfGroups() {
        DelayDesk x = threeTrains();
        for (int g = 0; g < 30; g++) {
            CHECK.due("group " + g, x.group(1 + g, 0, -1, -1, 1, 0), g);
        }
        CHECK.due("the 31st group", x.group(1, 0, -1, -1, 1, 0), -1);
        CHECK.due("30 groups", x.count(2), 30);
        CHECK.due("last group", x.told(29, 2), 30);
        CHECK.due("no group 30", x.told(30, 2), -1);
    }

    private static void desksAreTheirOwn() {
        DelayDesk x = new DelayDesk();
        DelayDesk y = new DelayDesk();
        x.event(0, 1);
        CHECK.due("another desk", y.count(0), 0);
    }
}
