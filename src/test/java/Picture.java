import java.util.ArrayList;
import java.util.List;
import java.util.function.Supplier;
import java.util.function.ToLongFunction;

/**
 * All that a desk shows: every question, and what the calls that change it would answer. A desk is used for 512 calls
 * only, so the questions are put to fresh desks, some at a time.
 */
final class Picture {
    private static final int AT_A_TIME = 150;

    private final Supplier<DelayDesk> made;
    private final List<String> names = new ArrayList<>();
    private final List<ToLongFunction<DelayDesk>> questions = new ArrayList<>();
    /** Each of these changes the desk, so that each has one of its own. */
    private final List<String> changeNames = new ArrayList<>();
    private final List<ToLongFunction<DelayDesk>> changes = new ArrayList<>();
    private final long[] shown;

    Picture(Supplier<DelayDesk> made) {
        this.made = made;
        DelayDesk x = made.get();
        int events = x.count(0);
        int activities = x.count(1);
        int groups = x.count(2);
        askWhole();
        askEvents(events);
        askActivities(activities);
        askGroups(groups);
        changeWhole();
        changeActivities(activities);
        shown = take(made);
    }

    /** Makes the call on desks that are alike: it must answer so, and show nothing that was not shown without it. */
    void staysAfter(Check check, String callName, ToLongFunction<DelayDesk> call, long answer) {
        check.due(callName, call.applyAsLong(made.get()), answer);
        long[] then = take(() -> {
            DelayDesk x = made.get();
            call.applyAsLong(x);
            x.spread();
            call.applyAsLong(x);
            return x;
        });
        for (int i = 0; i < shown.length; i++) {
            String name = i < names.size() ? names.get(i) : changeNames.get(i - names.size());
            check.due("after " + callName + ": " + name, then[i], shown[i]);
        }
    }

    DelayDesk fresh() {
        return made.get();
    }

    private void ask(String name, ToLongFunction<DelayDesk> question) {
        names.add(name);
        questions.add(question);
    }

    private void change(String name, ToLongFunction<DelayDesk> change) {
        changeNames.add(name);
        changes.add(change);
    }

    private void askWhole() {
        ask("spread", DelayDesk::spread);
        ask("cost", DelayDesk::cost);
        ask("recover", DelayDesk::recover);
        for (int what = 0; what <= 7; what++) {
            int w = what;
            ask("count " + w, x -> x.count(w));
        }
        for (int i = 0; i < 60; i++) {
            int at = i;
            ask("ring " + at, x -> x.ring(at));
        }
    }

    private void askEvents(int events) {
        for (int i = 0; i < events; i++) {
            int e = i;
            for (int what = 0; what <= 4; what++) {
                int w = what;
                ask("of " + e + " " + w, x -> x.of(e, w));
            }
            ask("cause " + e, x -> x.cause(e));
            ask("way " + e + " 0", x -> x.way(e, 0));
            ask("way " + e + " 1", x -> x.way(e, 1));
            ask("way " + e + " 2", x -> x.way(e, 2));
        }
    }

    private void askActivities(int activities) {
        for (int i = 0; i < activities; i++) {
            int a = i;
            for (int what = 0; what <= 6; what++) {
                int w = what;
                ask("look " + a + " " + w, x -> x.look(a, w));
            }
        }
    }

    private void askGroups(int groups) {
        for (int i = 0; i < groups; i++) {
            int g = i;
            for (int what = 0; what <= 2; what++) {
                int w = what;
                ask("told " + g + " " + w, x -> x.told(g, w));
            }
        }
    }

    private void changeWhole() {
        change("event", x -> x.event(15, 77));
        change("activity 0", x -> x.activity(0, 0, 1, 3));
        change("activity 3", x -> x.activity(3, 0, 2, 3));
        change("group", x -> x.group(1, 0, -1, -1, 0, 1));
        change("choose", DelayDesk::choose);
        change("choose, count 3", x -> x.choose() * 0 + x.count(3));
        change("rule 3", x -> x.rule(3));
        change("rule 3, cost", x -> x.rule(3) * 0 + x.cost());
        for (int train = 0; train < 16; train++) {
            int t = train;
            change("cancel " + t, x -> x.cancel(t, true) ? 1 : 0);
            change("there again " + t, x -> x.cancel(t, false) ? 1 : 0);
        }
    }

    private void changeActivities(int activities) {
        for (int i = 0; i < activities; i += activities > 20 ? 7 : 1) {
            int a = i;
            change("keep " + a, x -> x.keep(a, true) ? 1 : 0);
            change("break " + a, x -> x.keep(a, false) ? 1 : 0);
            change("turn " + a, x -> x.turn(a) ? 1 : 0);
        }
    }

    private long[] take(Supplier<DelayDesk> desks) {
        long[] answers = new long[questions.size() + changes.size()];
        DelayDesk x = null;
        for (int i = 0; i < questions.size(); i++) {
            x = i % AT_A_TIME == 0 ? desks.get() : x;
            answers[i] = questions.get(i).applyAsLong(x);
        }
        for (int i = 0; i < changes.size(); i++) {
            answers[questions.size() + i] = changes.get(i).applyAsLong(desks.get());
        }
        return answers;
    }
}
