import java.util.ArrayList;
import java.util.HashSet;
import java.util.List;
import java.util.Set;

/** Runs of calls on small desks, against a slow second reading of the document that tries out everything. */
public final class OracleTest {
    private static final int RUNS = 4000;
    private static final int NONE = -1;

    private static long state;

    public static void main(String[] args) {
        Check check = new Check();
        for (int run = 0; run < RUNS && check.allRight(); run++) {
            state = 1000003L * run + 17;
            oneRun(check, run);
        }
        check.end();
    }

    /** A plain congruence: the same runs every time. */
    private static int below(int bound) {
        state = state * 6364136223846793005L + 1442695040888963407L;
        return (int) Math.floorMod(state >>> 33, (long) bound);
    }

    private static int oftenBelow(int bound) {
        return below(12) == 0 ? below(bound + 4) - 2 : below(bound);
    }

    private static void oneRun(Check check, int run) {
        DelayDesk desk = new DelayDesk();
        Model model = new Model();
        int trains = 2 + below(4);
        int room = 3 + below(6);
        int span = 1 + below(6);
        int steps = 20 + below(60);
        for (int step = 0; step < steps && check.allRight(); step++) {
            String at = "run " + run + ", step " + step + ": ";
            change(check, at, desk, model, new int[] {trains, room, span});
            if (below(4) == 0) {
                compareAll(check, at, desk, model);
            }
        }
        compareAll(check, "run " + run + ", end: ", desk, model);
    }

    private static void change(Check check, String at, DelayDesk desk, Model model, int[] size) {
        int trains = size[0];
        int room = size[1];
        int span = size[2];
        int events = model.events.size();
        int acts = model.acts.size();
        switch (below(14)) {
            case 0: case 1: case 2: {
                if (events < room) {
                    int train = oftenBelow(trains);
                    int plan = oftenBelow(4 * span);
                    check.due(at + "event", desk.event(train, plan), model.event(train, plan));
                }
                break;
            }
            case 3: case 4: case 5: case 6: {
                if (acts < 2 * room) {
                    int kind = below(3) == 0 ? 2 : oftenBelow(5);
                    int from = oftenBelow(events + 1);
                    int to = oftenBelow(events + 1);
                    int least = below(3) == 0 ? 0 : oftenBelow(span + 1);
                    check.due(at + "activity " + kind + " " + from + " " + to + " " + least,
                            desk.activity(kind, from, to, least), model.activity(kind, from, to, least));
                }
                break;
            }
            case 7: {
                int e = oftenBelow(events + 1);
                int minutes = oftenBelow(2 * span);
                check.due(at + "source", desk.source(e, minutes), model.source(e, minutes));
                break;
            }
            case 8: {
                int a = oftenBelow(acts + 1);
                boolean kept = below(2) == 0;
                check.due(at + "keep", desk.keep(a, kept), model.keep(a, kept));
                break;
            }
            case 9: {
                int a = oftenBelow(acts + 1);
                check.due(at + "turn", desk.turn(a), model.turn(a));
                break;
            }
            case 10: {
                int train = oftenBelow(trains);
                boolean is = below(3) == 0;
                check.due(at + "cancel", desk.cancel(train, is), model.cancel(train, is));
                break;
            }
            case 11: case 12:
                groups(check, at, desk, model);
                break;
            default:
                decide(check, at, desk, model, span);
                break;
        }
    }

    private static void groups(Check check, String at, DelayDesk desk, Model model) {
        for (int i = 0; i < 4; i++) {
            int many = oftenBelow(5);
            int first = oftenBelow(model.events.size() + 1);
            int a = below(3) == 0 ? NONE : oftenBelow(model.acts.size() + 1);
            int b = below(2) == 0 ? NONE : oftenBelow(model.acts.size() + 1);
            int last = oftenBelow(model.events.size() + 1);
            int waiting = oftenBelow(12);
            check.due(at + "group " + many + " " + first + " " + a + " " + b + " " + last + " " + waiting,
                    desk.group(many, first, a, b, last, waiting), model.group(many, first, a, b, last, waiting));
        }
    }

    private static void decide(Check check, String at, DelayDesk desk, Model model, int span) {
        if (below(2) == 0) {
            check.due(at + "choose", desk.choose(), model.choose());
        } else {
            int w = oftenBelow(2 * span);
            check.due(at + "rule " + w, desk.rule(w), model.rule(w));
        }
        compareAll(check, at + "decided, ", desk, model);
    }

    private static void compareAll(Check check, String at, DelayDesk desk, Model model) {
        int[] minutes = model.minutes();
        check.due(at + "spread", desk.spread(), minutes == null ? 0 : 1);
        List<Integer> ring = model.ring();
        for (int i = -1; i < ring.size() + 2; i++) {
            check.due(at + "ring " + i, desk.ring(i), i >= 0 && i < ring.size() ? ring.get(i) : NONE);
        }
        for (int e = -1; e <= model.events.size(); e++) {
            for (int what = -1; what <= 5; what++) {
                check.due(at + "of " + e + " " + what, desk.of(e, what), model.of(e, what, minutes));
            }
            check.due(at + "cause " + e, desk.cause(e), model.cause(e, minutes));
            List<Integer> way = model.way(e, minutes);
            for (int i = -1; i < way.size() + 2; i++) {
                check.due(at + "way " + e + " " + i, desk.way(e, i), i >= 0 && i < way.size() ? way.get(i) : NONE);
            }
        }
        for (int a = -1; a <= model.acts.size(); a++) {
            for (int what = -1; what <= 7; what++) {
                check.due(at + "look " + a + " " + what, desk.look(a, what), model.look(a, what, minutes));
            }
        }
        for (int g = -1; g <= model.groups.size(); g++) {
            for (int what = -1; what <= 3; what++) {
                check.due(at + "told " + g + " " + what, desk.told(g, what), model.told(g, what, minutes));
            }
        }
        check.due(at + "cost", desk.cost(), model.cost(minutes));
        check.due(at + "recover", desk.recover(), model.recover(minutes));
        for (int what = -1; what <= 8; what++) {
            check.due(at + "count " + what, desk.count(what), model.count(what, minutes));
        }
    }

    private static final class Event {
        int train;
        int plan;
        int source;
    }

    private static final class Act {
        int kind;
        int from;
        int to;
        int least;
        boolean kept = true;
    }

    private static final class Group {
        int many;
        int last;
        int waiting;
        final List<Integer> changes = new ArrayList<>();
        final Set<Integer> trains = new HashSet<>();
    }

    private static final class Model {
        final List<Event> events = new ArrayList<>();
        final List<Act> acts = new ArrayList<>();
        final List<Group> groups = new ArrayList<>();
        final Set<Integer> cancelled = new HashSet<>();

        int event(int train, int plan) {
            if (train < 0 || train > 15 || plan < 0 || plan > 2000 || events.size() == 60) {
                return NONE;
            }
            Event e = new Event();
            e.train = train;
            e.plan = plan;
            events.add(e);
            return events.size() - 1;
        }

        boolean isEvent(int e) {
            return e >= 0 && e < events.size();
        }

        boolean isAct(int a) {
            return a >= 0 && a < acts.size();
        }

        int activity(int kind, int from, int to, int least) {
            if (kind < 0 || kind > 4 || !isEvent(from) || !isEvent(to) || from == to || least < 0 || least > 500
                    || acts.size() == 100) {
                return NONE;
            }
            boolean same = events.get(from).train == events.get(to).train;
            if ((kind <= 1) != same) {
                return NONE;
            }
            Act a = new Act();
            a.kind = kind;
            a.from = from;
            a.to = to;
            a.least = least;
            acts.add(a);
            return acts.size() - 1;
        }

        boolean source(int e, int minutes) {
            if (!isEvent(e) || minutes < 0 || minutes > 500) {
                return false;
            }
            events.get(e).source = minutes;
            return true;
        }

        boolean keep(int a, boolean kept) {
            if (!isAct(a) || acts.get(a).kind != 2 || acts.get(a).kept == kept) {
                return false;
            }
            acts.get(a).kept = kept;
            return true;
        }

        boolean turn(int a) {
            if (!isAct(a) || acts.get(a).kind != 3) {
                return false;
            }
            Act act = acts.get(a);
            int from = act.from;
            act.from = act.to;
            act.to = from;
            return true;
        }

        boolean cancel(int train, boolean is) {
            if (train < 0 || train > 15 || cancelled.contains(train) == is) {
                return false;
            }
            return is ? cancelled.add(train) : cancelled.remove(train);
        }

        int group(int many, int first, int a, int b, int last, int waiting) {
            if (groups.size() == 30 || many < 1 || many > 1000 || waiting < 0 || waiting > 1000 || !isEvent(first)
                    || !isEvent(last) || (a == NONE && b != NONE)) {
                return NONE;
            }
            Group g = new Group();
            g.many = many;
            g.last = last;
            g.waiting = waiting;
            if (a != NONE) {
                g.changes.add(a);
            }
            if (b != NONE) {
                g.changes.add(b);
            }
            int at = first;
            for (int c : g.changes) {
                if (!isAct(c) || acts.get(c).kind != 2
                        || events.get(acts.get(c).from).train != events.get(at).train) {
                    return NONE;
                }
                g.trains.add(events.get(at).train);
                at = acts.get(c).to;
            }
            if (events.get(at).train != events.get(last).train) {
                return NONE;
            }
            g.trains.add(events.get(last).train);
            groups.add(g);
            return groups.size() - 1;
        }

        boolean there(int e) {
            return !cancelled.contains(events.get(e).train);
        }

        boolean thereAct(int a) {
            return there(acts.get(a).from) && there(acts.get(a).to);
        }

        /** By the greatest sum over all paths without a repeat; null if there is a ring. */
        int[] minutes() {
            if (!ring().isEmpty()) {
                return null;
            }
            int[] result = new int[events.size()];
            for (int e = 0; e < events.size(); e++) {
                result[e] = longest(e, new HashSet<>());
            }
            return result;
        }

        private int longest(int e, Set<Integer> used) {
            int most = events.get(e).plan + events.get(e).source;
            used.add(e);
            for (int a = 0; a < acts.size(); a++) {
                Act act = acts.get(a);
                if (act.to == e && act.kept && thereAct(a) && !used.contains(act.from)) {
                    most = Math.max(most, longest(act.from, used) + act.least);
                }
            }
            used.remove(e);
            return most;
        }

        /** All rings, one by one, each from its lowest on. */
        List<Integer> ring() {
            List<Integer> best = new ArrayList<>();
            for (int a = 0; a < acts.size(); a++) {
                if (acts.get(a).kept && thereAct(a)) {
                    List<Integer> path = new ArrayList<>();
                    path.add(a);
                    extend(path, best);
                }
            }
            return best;
        }

        private void extend(List<Integer> path, List<Integer> best) {
            int at = acts.get(path.get(path.size() - 1)).to;
            if (at == acts.get(path.get(0)).from) {
                int sum = 0;
                for (int a : path) {
                    sum += acts.get(a).least;
                }
                if (sum > 0 && (best.isEmpty() || isBefore(path, best))) {
                    best.clear();
                    best.addAll(path);
                }
                return;
            }
            for (int i = 0; i < path.size(); i++) {
                if (acts.get(path.get(i)).from == at) {
                    return;
                }
            }
            for (int a = path.get(0) + 1; a < acts.size(); a++) {
                if (acts.get(a).from == at && acts.get(a).kept && thereAct(a)) {
                    path.add(a);
                    extend(path, best);
                    path.remove(path.size() - 1);
                }
            }
        }

        private static boolean isBefore(List<Integer> one, List<Integer> other) {
            if (one.size() != other.size()) {
                return one.size() < other.size();
            }
            for (int i = 0; i < one.size(); i++) {
                if (!one.get(i).equals(other.get(i))) {
                    return one.get(i) < other.get(i);
                }
            }
            return false;
        }

        boolean late(int e, int[] minutes) {
            return minutes != null && there(e) && minutes[e] > events.get(e).plan;
        }

        int of(int e, int what, int[] minutes) {
            if (!isEvent(e)) {
                return NONE;
            }
            Event event = events.get(e);
            boolean known = minutes != null && there(e);
            return switch (what) {
                case 0 -> known ? minutes[e] : NONE;
                case 1 -> known ? minutes[e] - event.plan : NONE;
                case 2 -> event.plan;
                case 3 -> event.source;
                case 4 -> event.train;
                default -> NONE;
            };
        }

        boolean binds(int a, int[] minutes) {
            if (minutes == null || !thereAct(a)) {
                return false;
            }
            Act act = acts.get(a);
            int late = minutes[act.to] - events.get(act.to).plan;
            return minutes[act.to] == minutes[act.from] + act.least && late > 0 && late > events.get(act.to).source;
        }

        int look(int a, int what, int[] minutes) {
            if (!isAct(a)) {
                return NONE;
            }
            Act act = acts.get(a);
            return switch (what) {
                case 0 -> act.kind;
                case 1 -> act.from;
                case 2 -> act.to;
                case 3 -> act.least;
                case 4 -> act.kept ? 1 : 0;
                case 5 -> binds(a, minutes) ? 1 : 0;
                case 6 -> events.get(act.to).plan - events.get(act.from).plan - act.least;
                default -> NONE;
            };
        }

        int cause(int e, int[] minutes) {
            if (!isEvent(e) || !late(e, minutes)) {
                return NONE;
            }
            for (int a = 0; a < acts.size(); a++) {
                if (acts.get(a).to == e && binds(a, minutes) && late(acts.get(a).from, minutes)) {
                    return a;
                }
            }
            return NONE;
        }

        List<Integer> way(int e, int[] minutes) {
            List<Integer> way = new ArrayList<>();
            if (!isEvent(e) || !late(e, minutes)) {
                return way;
            }
            int at = e;
            while (!way.contains(at)) {
                way.add(at);
                int cause = cause(at, minutes);
                if (cause != NONE) {
                    at = acts.get(cause).from;
                }
            }
            return way;
        }

        boolean fails(Group g, int[] minutes) {
            for (int train : g.trains) {
                if (cancelled.contains(train)) {
                    return true;
                }
            }
            for (int c : g.changes) {
                Act act = acts.get(c);
                if (!act.kept && minutes[act.to] < minutes[act.from] + act.least) {
                    return true;
                }
            }
            return false;
        }

        int told(int g, int what, int[] minutes) {
            if (g < 0 || g >= groups.size() || what < 0 || what > 2) {
                return NONE;
            }
            Group group = groups.get(g);
            if (what == 2) {
                return group.many;
            }
            if (minutes == null) {
                return NONE;
            }
            boolean fails = fails(group, minutes);
            if (what == 1) {
                return fails ? 1 : 0;
            }
            return fails ? group.waiting : minutes[group.last] - events.get(group.last).plan;
        }

        long cost(int[] minutes) {
            if (minutes == null) {
                return NONE;
            }
            long sum = 0;
            for (int g = 0; g < groups.size(); g++) {
                sum += (long) groups.get(g).many * told(g, 0, minutes);
            }
            return sum;
        }

        long choose() {
            List<Act> changes = new ArrayList<>();
            List<Boolean> before = new ArrayList<>();
            for (int a = 0; a < acts.size(); a++) {
                if (acts.get(a).kind == 2 && thereAct(a)) {
                    changes.add(acts.get(a));
                    before.add(acts.get(a).kept);
                }
            }
            if (changes.size() > 10) {
                return NONE;
            }
            long best = NONE;
            int bestMask = NONE;
            for (int mask = 0; mask < 1 << changes.size(); mask++) {
                keepMask(changes, mask);
                long cost = cost(minutes());
                if (cost != NONE && (bestMask == NONE || cost < best || cost == best && isBetter(mask, bestMask))) {
                    best = cost;
                    bestMask = mask;
                }
            }
            if (bestMask != NONE) {
                keepMask(changes, bestMask);
            } else {
                for (int i = 0; i < changes.size(); i++) {
                    changes.get(i).kept = before.get(i);
                }
            }
            return best;
        }

        private static void keepMask(List<Act> changes, int mask) {
            for (int i = 0; i < changes.size(); i++) {
                changes.get(i).kept = (mask >> i & 1) == 1;
            }
        }

        private static boolean isBetter(int mask, int other) {
            if (Integer.bitCount(mask) != Integer.bitCount(other)) {
                return Integer.bitCount(mask) < Integer.bitCount(other);
            }
            int lowestDifference = Integer.lowestOneBit(mask ^ other);
            return (mask & lowestDifference) != 0;
        }

        int rule(int w) {
            if (w < 0 || w > 1000) {
                return NONE;
            }
            List<Integer> order = new ArrayList<>();
            for (int a = 0; a < acts.size(); a++) {
                if (acts.get(a).kind == 2) {
                    acts.get(a).kept = false;
                    if (thereAct(a)) {
                        order.add(a);
                    }
                }
            }
            order.sort((a, b) -> events.get(acts.get(a).to).plan - events.get(acts.get(b).to).plan);
            for (int a : order) {
                int[] minutes = minutes();
                Act act = acts.get(a);
                if (minutes != null && minutes[act.from] + act.least - events.get(act.to).plan <= w) {
                    act.kept = true;
                    act.kept = minutes() != null;
                }
            }
            return count(3, null);
        }

        int recover(int[] minutes) {
            int latest = NONE;
            for (int e = 0; e < events.size(); e++) {
                latest = late(e, minutes) ? Math.max(latest, minutes[e]) : latest;
            }
            return latest;
        }

        int count(int what, int[] minutes) {
            int number = 0;
            switch (what) {
                case 0:
                    return events.size();
                case 1:
                    return acts.size();
                case 2:
                    return groups.size();
                case 3:
                    for (Act a : acts) {
                        number += a.kind == 2 && a.kept ? 1 : 0;
                    }
                    return number;
                case 4: case 5:
                    for (int e = 0; e < events.size(); e++) {
                        if (late(e, minutes)) {
                            number += what == 4 ? 1 : minutes[e] - events.get(e).plan;
                        }
                    }
                    return number;
                case 6:
                    return cancelled.size();
                case 7:
                    for (int a = 0; a < acts.size(); a++) {
                        number += look(a, 6, minutes) < 0 ? 1 : 0;
                    }
                    return number;
                default:
                    return NONE;
            }
        }
    }
}
