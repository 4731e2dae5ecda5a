import java.util.function.Supplier;
import java.util.function.ToLongFunction;

/**
 * "A call that is refused (NONE, false) changes nothing." Each kind of refused call on desks of each kind: all that the
 * desk shows is as it is without that call.
 */
public final class RefusedTest {
    private static final int NONE = -1;
    private static final int LEAST_INT = Integer.MIN_VALUE;
    private static final int GREATEST_INT = Integer.MAX_VALUE;
    private static final Check CHECK = new Check();

    private static Picture picture;
    private static String desk;

    public static void main(String[] args) {
        onto("empty desk", DelayDesk::new);
        refusedForNumbers(0, 0, 0);
        onto("small desk", RefusedTest::small);
        refusedForNumbers(9, 7, 3);
        refusedOnSmall();
        refusedOnSmallWithSpread();
        onto("small desk, no spread", RefusedTest::smallWithoutSpread);
        refusedForNumbers(9, 7, 3);
        refusedOnSmall();
        refusedWithoutSpread();
        onto("full desk, ten changes", () -> full(10));
        refusedForNumbers(60, 100, 30);
        refusedOnFull();
        onto("full desk, eleven changes", () -> full(11));
        refusedForNumbers(60, 100, 30);
        refusedOnFull();
        refusedForElevenChanges();
        CHECK.end();
    }

    private static void onto(String name, Supplier<DelayDesk> made) {
        desk = name;
        picture = new Picture(made);
    }

    private static void refused(String call, ToLongFunction<DelayDesk> made) {
        picture.staysAfter(CHECK, desk + ": " + call, made, NONE);
    }

    private interface Question {
        boolean on(DelayDesk x);
    }

    private static void denied(String call, Question made) {
        picture.staysAfter(CHECK, desk + ": " + call, x -> made.on(x) ? 1 : 0, 0);
    }

    /**
     * Trains 0, 1, 2 with three events each; train 3 is cancelled. Activities: 0 run, 1 stand, 2 change that is kept,
     * 3 change that is broken, 4 headway, 5 turn, 6 headway.
     */
    private static DelayDesk small() {
        DelayDesk x = new DelayDesk();
        for (int e = 0; e < 9; e++) {
            x.event(e / 3, 10 * e);
        }
        x.activity(0, 0, 1, 8);
        x.activity(1, 1, 2, 10);
        x.activity(2, 2, 3, 5);
        x.activity(2, 5, 6, 10);
        x.activity(3, 3, 6, 20);
        x.activity(4, 5, 8, 31);
        x.activity(3, 8, 4, 0);
        x.keep(3, false);
        x.group(4, 0, 2, NONE, 5, 30);
        x.group(2, 0, 2, 3, 8, 90);
        x.group(7, 6, NONE, NONE, 8, 0);
        x.source(0, 6);
        x.source(5, 9);
        x.cancel(3, true);
        return x;
    }

    /** As many, but 1, 5 and 4 are a ring of one minute, with no change in it. */
    private static DelayDesk smallWithoutSpread() {
        DelayDesk x = new DelayDesk();
        for (int e = 0; e < 9; e++) {
            x.event(e / 3, 10 * e);
        }
        x.activity(0, 0, 1, 8);
        x.activity(1, 8, 7, 1);
        x.activity(2, 2, 3, 5);
        x.activity(2, 5, 6, 10);
        x.activity(3, 3, 8, 0);
        x.activity(4, 7, 3, 0);
        x.activity(3, 8, 2, 0);
        x.keep(3, false);
        x.group(4, 0, 2, NONE, 5, 30);
        x.group(2, 0, 2, 3, 8, 90);
        x.group(7, 6, NONE, NONE, 8, 0);
        x.source(0, 6);
        x.cancel(3, true);
        return x;
    }

    /** 60 events of 15 trains, 100 activities, 30 groups; activities 0 to 44 are runs, then come the changes. */
    private static DelayDesk full(int changes) {
        DelayDesk x = new DelayDesk();
        for (int e = 0; e < 60; e++) {
            x.event(e / 4, 30 * (e % 4));
        }
        for (int t = 0; t < 15; t++) {
            for (int i = 0; i < 3; i++) {
                x.activity(0, 4 * t + i, 4 * t + i + 1, 28);
            }
        }
        for (int t = 0; t < changes; t++) {
            int a = x.activity(2, 4 * t + 1, 4 * t + 6, 30);
            x.group(3 + t % 3, 4 * t, a, NONE, 4 * t + 7, 70 + 5 * t);
        }
        for (int a = x.count(1); a < 100; a++) {
            x.activity(3, 0, 40 + a % 20, 1);
        }
        for (int g = x.count(2); g < 30; g++) {
            x.group(g, 4, NONE, NONE, 7, 45);
        }
        x.source(0, 40);
        x.source(21, 60);
        return x;
    }

    /** What no desk allows, whatever stands on it: each number below its least and above its greatest. */
    private static void refusedForNumbers(int events, int activities, int groups) {
        hasOnIt(events, activities, groups);
        for (int train : new int[] {LEAST_INT, -2, -1, 16, 17, GREATEST_INT}) {
            refused("event, train " + train, x -> x.event(train, 5));
            denied("cancel, train " + train, x -> x.cancel(train, true));
            denied("there again, train " + train, x -> x.cancel(train, false));
        }
        for (int plan : new int[] {LEAST_INT, -1, 2001, GREATEST_INT}) {
            refused("event, plan " + plan, x -> x.event(1, plan));
        }
        for (int kind : new int[] {LEAST_INT, -1, 5, GREATEST_INT}) {
            refused("activity, kind " + kind, x -> x.activity(kind, 0, 1, 5));
            refused("activity of two trains, kind " + kind, x -> x.activity(kind, 0, 4, 5));
        }
        for (int least : new int[] {LEAST_INT, -1, 501, GREATEST_INT}) {
            refused("activity, least " + least, x -> x.activity(0, 0, 1, least));
        }
        for (int w : new int[] {LEAST_INT, -1, 1001, GREATEST_INT}) {
            refused("rule " + w, x -> x.rule(w));
        }
        for (int what : new int[] {LEAST_INT, -1, 8, GREATEST_INT}) {
            refused("count " + what, x -> x.count(what));
        }
        refusedForEvents(events);
        refusedForActivities(activities);
        refusedForGroups(groups);
    }

    private static void hasOnIt(int events, int activities, int groups) {
        DelayDesk x = picture.fresh();
        CHECK.due(desk + ": events", x.count(0), events);
        CHECK.due(desk + ": activities", x.count(1), activities);
        CHECK.due(desk + ": groups", x.count(2), groups);
    }

    private static void refusedForEvents(int events) {
        for (int e : new int[] {LEAST_INT, -2, -1, events, 60, GREATEST_INT}) {
            refused("activity, from " + e, x -> x.activity(0, e, 1, 5));
            refused("activity, to " + e, x -> x.activity(0, 0, e, 5));
            denied("source, event " + e, x -> x.source(e, 5));
            refused("of " + e, x -> x.of(e, 2));
            refused("cause " + e, x -> x.cause(e));
            refused("way " + e, x -> x.way(e, 0));
            refused("group, first " + e, x -> x.group(1, e, NONE, NONE, 0, 5));
            refused("group, last " + e, x -> x.group(1, 0, NONE, NONE, e, 5));
        }
        for (int minutes : new int[] {LEAST_INT, -1, 501, GREATEST_INT}) {
            denied("source, minutes " + minutes, x -> x.source(0, minutes));
        }
        for (int what : new int[] {LEAST_INT, -1, 5, GREATEST_INT}) {
            refused("of 0, what " + what, x -> x.of(0, what));
        }
        for (int i : new int[] {LEAST_INT, -1, 60, GREATEST_INT}) {
            refused("way 0, i " + i, x -> x.way(0, i));
            refused("ring, i " + i, x -> x.ring(i));
        }
    }

    private static void refusedForActivities(int activities) {
        for (int a : new int[] {LEAST_INT, -2, -1, activities, 100, GREATEST_INT}) {
            denied("keep " + a, x -> x.keep(a, true));
            denied("break " + a, x -> x.keep(a, false));
            denied("turn " + a, x -> x.turn(a));
            refused("look " + a, x -> x.look(a, 0));
        }
        for (int what : new int[] {LEAST_INT, -1, 7, GREATEST_INT}) {
            refused("look 0, what " + what, x -> x.look(0, what));
        }
    }

    private static void refusedForGroups(int groups) {
        for (int g : new int[] {LEAST_INT, -1, groups, 30, GREATEST_INT}) {
            refused("told " + g, x -> x.told(g, 2));
        }
        for (int what : new int[] {LEAST_INT, -1, 3, GREATEST_INT}) {
            refused("told 0, what " + what, x -> x.told(0, what));
        }
        for (int many : new int[] {LEAST_INT, -1, 0, 1001, GREATEST_INT}) {
            refused("group of " + many, x -> x.group(many, 0, NONE, NONE, 0, 5));
        }
        for (int waiting : new int[] {LEAST_INT, -1, 1001, GREATEST_INT}) {
            refused("group, waiting " + waiting, x -> x.group(1, 0, NONE, NONE, 0, waiting));
        }
    }

    /** What the two small desks refuse: numbers that are there, but do not fit. */
    private static void refusedOnSmall() {
        for (int kind = 0; kind <= 4; kind++) {
            int k = kind;
            refused("activity, one and the same, kind " + k, x -> x.activity(k, 4, 4, 0));
            refused("activity, trains that do not fit, kind " + k, x -> x.activity(k, 0, k <= 1 ? 3 : 1, 0));
        }
        for (int a : new int[] {0, 1, 4, 5, 6}) {
            denied("no change: keep " + a, x -> x.keep(a, true));
            denied("no change: break " + a, x -> x.keep(a, false));
            refused("group, a no change " + a, x -> x.group(1, 0, a, NONE, 0, 5));
            refused("group, b no change " + a, x -> x.group(1, 0, 2, a, 5, 5));
        }
        denied("kept already", x -> x.keep(2, true));
        denied("broken already", x -> x.keep(3, false));
        for (int a : new int[] {0, 1, 2, 3, 5}) {
            denied("no headway: turn " + a, x -> x.turn(a));
        }
        denied("cancelled already", x -> x.cancel(3, true));
        denied("there already", x -> x.cancel(0, false));
        for (int a : new int[] {LEAST_INT, -2, 7, 100, GREATEST_INT}) {
            refused("group, a " + a, x -> x.group(1, 0, a, NONE, 0, 5));
            refused("group, b " + a, x -> x.group(1, 0, 2, a, 5, 5));
        }
        refused("group, b without a", x -> x.group(1, 5, NONE, 3, 8, 5));
        refused("group, first does not fit", x -> x.group(1, 3, 2, NONE, 5, 5));
        refused("group, last does not fit", x -> x.group(1, 0, 2, NONE, 2, 5));
        refused("group, b does not fit", x -> x.group(1, 0, 2, 2, 5, 5));
        refused("group, last does not fit b", x -> x.group(1, 0, 2, 3, 5, 5));
        refused("group, no change, another train", x -> x.group(1, 0, NONE, NONE, 3, 5));
    }

    private static void refusedOnSmallWithSpread() {
        refused("no ring", x -> x.ring(0));
        refused("no cause", x -> x.cause(0));
        refused("no way on", x -> x.way(0, 1));
        refused("no way", x -> x.way(7, 0));
    }

    private static void refusedWithoutSpread() {
        refused("minutes", x -> x.of(0, 0));
        refused("late", x -> x.of(0, 1));
        refused("cause", x -> x.cause(0));
        refused("way", x -> x.way(0, 0));
        refused("ring's end", x -> x.ring(3));
        refused("lateness", x -> x.told(0, 0));
        refused("misses", x -> x.told(0, 1));
        refused("cost", DelayDesk::cost);
        refused("recover", DelayDesk::recover);
        refused("choose", DelayDesk::choose);
    }

    private static void refusedOnFull() {
        refused("the 61st event", x -> x.event(0, 0));
        refused("the 101st activity", x -> x.activity(0, 0, 1, 0));
        refused("the 31st group", x -> x.group(1, 0, NONE, NONE, 0, 0));
    }

    private static void refusedForElevenChanges() {
        refused("choose of eleven", DelayDesk::choose);
    }
}
