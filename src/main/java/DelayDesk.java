import java.util.Arrays;

/** A desk for late trains; ../shared/DOC.md says what each call promises. */
public final class DelayDesk {
    public static final int NONE = -1;

    private static final int MOST_EVENTS = 60;
    private static final int MOST_ACTIVITIES = 100;
    private static final int MOST_GROUPS = 30;
    private static final int MOST_CHOICES = 10;
    private static final int TRAINS = 16;
    private static final int LAST_PLAN = 2000;
    private static final int MOST_LEAST = 500;
    private static final int MOST_SOURCE = 500;
    private static final int MOST_TRAVELLERS = 1000;
    private static final int MOST_WAITING = 1000;
    private static final int MOST_ALLOWANCE = 1000;

    private static final int RUN = 0;
    private static final int STAND = 1;
    private static final int CHANGE = 2;
    private static final int HEADWAY = 3;
    private static final int TURN = 4;

    private final Net net;
    private final Travellers travellers;
    private final Rings rings;
    private final Choice choice;
    private final Rule ruling;
    private final int[] minutes;
    private final int[] seen;
    /** Whether minutes and hasSpread are those of the net as it stands. */
    private boolean spreadKnown;
    private boolean hasSpread;
    /** Whether the ring is that of the net as it stands. */
    private boolean ringKnown;

    public DelayDesk() {
        net = new Net();
        travellers = new Travellers(net);
        rings = new Rings(net);
        choice = new Choice(net, travellers);
        ruling = new Rule(net);
        minutes = new int[MOST_EVENTS];
        seen = new int[MOST_EVENTS];
        spreadKnown = false;
        hasSpread = false;
        ringKnown = false;
    }

    public int event(int train, int plan) {
        if (!isIn(train, 0, TRAINS - 1) || !isIn(plan, 0, LAST_PLAN) || net.events >= MOST_EVENTS) {
            return NONE;
        }
        forgetAnswers();
        return net.addEvent(train, plan);
    }

    public int activity(int kind, int from, int to, int least) {
        if (!isIn(kind, RUN, TURN) || !isIn(least, 0, MOST_LEAST) || net.activities >= MOST_ACTIVITIES
                || !net.canJoin(kind, from, to)) {
            return NONE;
        }
        forgetAnswers();
        return net.addActivity(kind, from, to, least);
    }

    public boolean source(int e, int minutes) {
        if (!net.hasEvent(e) || !isIn(minutes, 0, MOST_SOURCE)) {
            return false;
        }
        net.source[e] = minutes;
        forgetAnswers();
        return true;
    }

    public boolean keep(int a, boolean kept) {
        if (!net.isOfKind(a, CHANGE) || net.kept[a] == kept) {
            return false;
        }
        net.kept[a] = kept;
        forgetAnswers();
        return true;
    }

    public boolean turn(int a) {
        if (!net.isOfKind(a, HEADWAY)) {
            return false;
        }
        int begin = net.from[a];
        net.from[a] = net.to[a];
        net.to[a] = begin;
        forgetAnswers();
        return true;
    }

    public boolean cancel(int train, boolean is) {
        if (!isIn(train, 0, TRAINS - 1) || net.cancelled[train] == is) {
            return false;
        }
        net.setCancelled(train, is);
        forgetAnswers();
        return true;
    }

    public int group(int many, int first, int a, int b, int last, int waiting) {
        if (!isIn(many, 1, MOST_TRAVELLERS) || !isIn(waiting, 0, MOST_WAITING)
                || travellers.groups >= MOST_GROUPS || !travellers.canGo(first, a, b, last)) {
            return NONE;
        }
        return travellers.add(many, first, a, b, last, waiting);
    }

    public int spread() {
        return asNumber(knowSpread());
    }

    public int of(int e, int what) {
        if (!net.hasEvent(e)) {
            return NONE;
        }
        switch (what) {
            case 0:
                return knowSpread() && net.there[e] ? minutes[e] : NONE;
            case 1:
                return knowSpread() && net.there[e] ? minutes[e] - net.plan[e] : NONE;
            case 2:
                return net.plan[e];
            case 3:
                return net.source[e];
            case 4:
                return net.train[e];
            default:
                return NONE;
        }
    }

    public int look(int a, int what) {
        if (!net.hasActivity(a)) {
            return NONE;
        }
        switch (what) {
            case 0:
                return net.kind[a];
            case 1:
                return net.from[a];
            case 2:
                return net.to[a];
            case 3:
                return net.least[a];
            case 4:
                return asNumber(net.kept[a]);
            case 5:
                return asNumber(knowSpread() && binds(a));
            case 6:
                return net.slack(a);
            default:
                return NONE;
        }
    }

    public int cause(int e) {
        return knowSpread() && isLate(e) ? causeOfLate(e) : NONE;
    }

    public int way(int e, int i) {
        if (!knowSpread() || !isLate(e) || !isIn(i, 0, MOST_EVENTS - 1)) {
            return NONE;
        }
        Arrays.fill(seen, 0);
        int at = e;
        for (int step = 0; step < i; step++) {
            seen[at] = 1;
            int by = causeOfLate(at);
            if (by == NONE || seen[net.from[by]] != 0) {
                return NONE;
            }
            at = net.from[by];
        }
        return at;
    }

    public int ring(int i) {
        if (knowSpread()) {
            return NONE;
        }
        if (!ringKnown) {
            rings.find();
            ringKnown = true;
        }
        return isIn(i, 0, rings.length - 1) ? rings.members[i] : NONE;
    }

    public int told(int g, int what) {
        if (!travellers.hasGroup(g)) {
            return NONE;
        }
        switch (what) {
            case 0:
                return knowSpread() ? travellers.lateness(g, minutes) : NONE;
            case 1:
                return knowSpread() ? asNumber(travellers.isStranded(g, minutes)) : NONE;
            case 2:
                return travellers.many[g];
            default:
                return NONE;
        }
    }

    public long cost() {
        return knowSpread() ? travellers.sum(minutes) : NONE;
    }

    public long choose() {
        long least = choice.make();
        forgetAnswers();
        return least;
    }

    public int rule(int w) {
        if (!isIn(w, 0, MOST_ALLOWANCE)) {
            return NONE;
        }
        ruling.follow(w);
        forgetAnswers();
        return net.keptChanges();
    }

    public int recover() {
        if (!knowSpread()) {
            return NONE;
        }
        int latest = NONE;
        for (int e = 0; e < net.events; e++) {
            if (isLate(e)) {
                latest = Math.max(latest, minutes[e]);
            }
        }
        return latest;
    }

    public int count(int what) {
        switch (what) {
            case 0:
                return net.events;
            case 1:
                return net.activities;
            case 2:
                return travellers.groups;
            case 3:
                return net.keptChanges();
            case 4:
                return knowSpread() ? lateEvents() : 0;
            case 5:
                return knowSpread() ? lateMinutes() : 0;
            case 6:
                return net.cancelledTrains();
            case 7:
                return net.tightActivities();
            default:
                return NONE;
        }
    }

    private static boolean isIn(int number, int lowest, int highest) {
        return number >= lowest && number <= highest;
    }

    private static int asNumber(boolean is) {
        return is ? 1 : 0;
    }

    private void forgetAnswers() {
        spreadKnown = false;
        ringKnown = false;
    }

    /** Brings the minutes up to date; whether there is a spread. */
    private boolean knowSpread() {
        if (!spreadKnown) {
            net.putEarliest(minutes);
            hasSpread = net.settle(minutes);
            spreadKnown = true;
        }
        return hasSpread;
    }

    // The questions from here on are asked only when the spread is known and there is one.

    private boolean isLate(int e) {
        return net.hasEvent(e) && net.there[e] && minutes[e] > net.plan[e];
    }

    /**
     * The document does not ask that the activity be KEPT: a broken change whose end just happens to
     * stand at its minutes binds too.
     */
    private boolean binds(int a) {
        int end = net.to[a];
        return net.joinsThere(a)
                && minutes[end] == minutes[net.from[a]] + net.least[a]
                && minutes[end] - net.plan[end] > net.source[end];
    }

    private int causeOfLate(int e) {
        for (int a = 0; a < net.activities; a++) {
            if (net.to[a] == e && binds(a) && isLate(net.from[a])) {
                return a;
            }
        }
        return NONE;
    }

    private int lateEvents() {
        int late = 0;
        for (int e = 0; e < net.events; e++) {
            if (isLate(e)) {
                late++;
            }
        }
        return late;
    }

    private int lateMinutes() {
        int sum = 0;
        for (int e = 0; e < net.events; e++) {
            if (isLate(e)) {
                sum += minutes[e] - net.plan[e];
            }
        }
        return sum;
    }

    /** The events, what binds them to one another, and the trains that are cancelled. */
    private static final class Net {
        final int[] train = new int[MOST_EVENTS];
        final int[] plan = new int[MOST_EVENTS];
        final int[] source = new int[MOST_EVENTS];
        final boolean[] there = new boolean[MOST_EVENTS];
        final int[] kind = new int[MOST_ACTIVITIES];
        final int[] from = new int[MOST_ACTIVITIES];
        final int[] to = new int[MOST_ACTIVITIES];
        final int[] least = new int[MOST_ACTIVITIES];
        final boolean[] kept = new boolean[MOST_ACTIVITIES];
        final boolean[] cancelled = new boolean[TRAINS];
        int events = 0;
        int activities = 0;

        int addEvent(int ofTrain, int atPlan) {
            train[events] = ofTrain;
            plan[events] = atPlan;
            source[events] = 0;
            there[events] = !cancelled[ofTrain];
            events++;
            return events - 1;
        }

        int addActivity(int ofKind, int begin, int end, int leastMinutes) {
            kind[activities] = ofKind;
            from[activities] = begin;
            to[activities] = end;
            least[activities] = leastMinutes;
            kept[activities] = true;
            activities++;
            return activities - 1;
        }

        boolean hasEvent(int e) {
            return e >= 0 && e < events;
        }

        boolean hasActivity(int a) {
            return a >= 0 && a < activities;
        }

        boolean isOfKind(int a, int which) {
            return hasActivity(a) && kind[a] == which;
        }

        boolean canJoin(int ofKind, int begin, int end) {
            if (!hasEvent(begin) || !hasEvent(end) || begin == end) {
                return false;
            }
            boolean withinOneTrain = ofKind == RUN || ofKind == STAND;
            return withinOneTrain == (train[begin] == train[end]);
        }

        void setCancelled(int which, boolean is) {
            cancelled[which] = is;
            for (int e = 0; e < events; e++) {
                if (train[e] == which) {
                    there[e] = !is;
                }
            }
        }

        boolean joinsThere(int a) {
            return there[from[a]] && there[to[a]];
        }

        /** Whether activity a holds its end back now. */
        boolean holds(int a) {
            return kept[a] && joinsThere(a);
        }

        int slack(int a) {
            return plan[to[a]] - plan[from[a]] - least[a];
        }

        int keptChanges() {
            int number = 0;
            for (int a = 0; a < activities; a++) {
                if (kind[a] == CHANGE && kept[a]) {
                    number++;
                }
            }
            return number;
        }

        int cancelledTrains() {
            int number = 0;
            for (int t = 0; t < TRAINS; t++) {
                if (cancelled[t]) {
                    number++;
                }
            }
            return number;
        }

        int tightActivities() {
            int number = 0;
            for (int a = 0; a < activities; a++) {
                if (slack(a) < 0) {
                    number++;
                }
            }
            return number;
        }

        void putEarliest(int[] row) {
            for (int e = 0; e < events; e++) {
                row[e] = plan[e] + source[e];
            }
        }

        /**
         * Raises the row to the least minutes that obey all that holds; false if there are none. The row
         * must not be above them when it comes. Without a ring a rise passes over fewer activities than
         * there are events, so one that still goes on after as many rounds never ends.
         */
        boolean settle(int[] row) {
            for (int round = 0; round <= events; round++) {
                if (!raise(row)) {
                    return true;
                }
            }
            return false;
        }

        private boolean raise(int[] row) {
            boolean raised = false;
            for (int a = 0; a < activities; a++) {
                if (!isObeyed(a, row) && holds(a)) {
                    row[to[a]] = row[from[a]] + least[a];
                    raised = true;
                }
            }
            return raised;
        }

        boolean isObeyed(int a, int[] row) {
            return row[to[a]] >= row[from[a]] + least[a];
        }
    }

    /** The groups of travellers. */
    private static final class Travellers {
        private final Net net;
        final int[] many = new int[MOST_GROUPS];
        private final int[] first = new int[MOST_GROUPS];
        private final int[] changeA = new int[MOST_GROUPS];
        private final int[] changeB = new int[MOST_GROUPS];
        private final int[] last = new int[MOST_GROUPS];
        private final int[] waiting = new int[MOST_GROUPS];
        int groups = 0;

        Travellers(Net ofNet) {
            net = ofNet;
        }

        boolean hasGroup(int g) {
            return g >= 0 && g < groups;
        }

        /** Whether such a journey can be: each train that it leaves is the one that it came to. */
        boolean canGo(int start, int a, int b, int end) {
            if (!net.hasEvent(start) || !net.hasEvent(end) || (a == NONE && b != NONE)) {
                return false;
            }
            int train = trainAfter(net.train[start], a);
            train = trainAfter(train, b);
            return train != NONE && net.train[end] == train;
        }

        private int trainAfter(int train, int change) {
            if (change == NONE || train == NONE) {
                return train;
            }
            if (!net.isOfKind(change, CHANGE) || net.train[net.from[change]] != train) {
                return NONE;
            }
            return net.train[net.to[change]];
        }

        int add(int howMany, int start, int a, int b, int end, int wait) {
            many[groups] = howMany;
            first[groups] = start;
            changeA[groups] = a;
            changeB[groups] = b;
            last[groups] = end;
            waiting[groups] = wait;
            groups++;
            return groups - 1;
        }

        /** Whether group g misses a change or lacks a train. */
        boolean isStranded(int g, int[] minutes) {
            return !net.there[first[g]] || fails(changeA[g], minutes) || fails(changeB[g], minutes);
        }

        /** The train that a change leaves is the first one or that of the change before: it is looked at there. */
        private boolean fails(int change, int[] minutes) {
            if (change == NONE) {
                return false;
            }
            int begin = net.from[change];
            int end = net.to[change];
            return !net.there[end] || (!net.kept[change] && minutes[end] < minutes[begin] + net.least[change]);
        }

        int lateness(int g, int[] minutes) {
            return isStranded(g, minutes) ? waiting[g] : minutes[last[g]] - net.plan[last[g]];
        }

        long sum(int[] minutes) {
            long all = 0;
            for (int g = 0; g < groups; g++) {
                all += (long) many[g] * lateness(g, minutes);
            }
            return all;
        }
    }

    /** Finds the ring that leaves no spread. */
    private static final class Rings {
        private final Net net;
        /** By number of activities and event: the most LEAST of such a walk from there to the aim, or NONE. */
        private final int[][] most = new int[MOST_EVENTS + 1][MOST_EVENTS];
        private final int[] shortestAt = new int[MOST_EVENTS];
        /** The activities that hold, by number. */
        private final int[] holding = new int[MOST_ACTIVITIES];
        private int held = 0;
        final int[] members = new int[MOST_EVENTS];
        int length = 0;

        Rings(Net ofNet) {
            net = ofNet;
        }

        /**
         * A closed walk of the fewest activities with LEAST above 0 comes to no event twice: else one of
         * its parts would be a shorter one. So it is enough to look at walks.
         */
        void find() {
            length = 0;
            gatherHolding();
            int size = shortest();
            int lowest = size == NONE ? NONE : lowestMember(size);
            if (lowest != NONE) {
                follow(lowest, size);
            }
        }

        private void gatherHolding() {
            held = 0;
            for (int a = 0; a < net.activities; a++) {
                if (net.holds(a)) {
                    holding[held] = a;
                    held++;
                }
            }
        }

        private int shortest() {
            int size = NONE;
            for (int e = 0; e < net.events; e++) {
                shortestAt[e] = shortestThrough(e, size == NONE ? net.events : size);
                if (shortestAt[e] != NONE) {
                    size = shortestAt[e];
                }
            }
            return size;
        }

        private int shortestThrough(int e, int longest) {
            aimAt(e);
            for (int size = 1; size <= longest; size++) {
                lengthen(size);
                if (most[size][e] > 0) {
                    return size;
                }
            }
            return NONE;
        }

        private void aimAt(int e) {
            Arrays.fill(most[0], NONE);
            most[0][e] = 0;
        }

        private void lengthen(int size) {
            Arrays.fill(most[size], NONE);
            for (int i = 0; i < held; i++) {
                int begin = net.from[holding[i]];
                int reach = reachBy(holding[i], size - 1);
                if (reach > most[size][begin]) {
                    most[size][begin] = reach;
                }
            }
        }

        /** The most LEAST of a walk to the aim that begins with activity a and goes on by so many others. */
        private int reachBy(int a, int others) {
            int rest = most[others][net.to[a]];
            return rest == NONE ? NONE : rest + net.least[a];
        }

        /** The lowest activity on any ring of that size; leaves the walks aimed at its beginning. */
        private int lowestMember(int size) {
            for (int i = 0; i < held; i++) {
                int begin = net.from[holding[i]];
                if (shortestAt[begin] == size) {
                    aimAt(begin);
                    for (int shorter = 1; shorter < size; shorter++) {
                        lengthen(shorter);
                    }
                    if (reachBy(holding[i], size - 1) > 0) {
                        return holding[i];
                    }
                }
            }
            return NONE;
        }

        private void follow(int lowest, int size) {
            members[0] = lowest;
            int sum = net.least[lowest];
            for (int i = 1; i < size; i++) {
                int next = nextMember(net.to[members[i - 1]], size - 1 - i, sum);
                if (next == NONE) {
                    return;
                }
                members[i] = next;
                sum += net.least[next];
            }
            length = size;
        }

        private int nextMember(int at, int others, int sum) {
            for (int i = 0; i < held; i++) {
                if (net.from[holding[i]] == at) {
                    int reach = reachBy(holding[i], others);
                    if (reach != NONE && sum + reach > 0) {
                        return holding[i];
                    }
                }
            }
            return NONE;
        }
    }

    /** Tries all ways to keep the changes that are there. */
    private static final class Choice {
        private final Net net;
        private final Travellers travellers;
        private final int[] changes = new int[MOST_CHOICES];
        private final boolean[] before = new boolean[MOST_CHOICES];
        private final boolean[] best = new boolean[MOST_CHOICES];
        /** Row i: the minutes when i changes have been decided and the others are broken. */
        private final int[][] rows = new int[MOST_CHOICES + 1][MOST_EVENTS];
        private int size = 0;
        private long bestCost = NONE;
        private int bestKept = 0;

        Choice(Net ofNet, Travellers ofTravellers) {
            net = ofNet;
            travellers = ofTravellers;
        }

        long make() {
            if (!gather()) {
                return NONE;
            }
            bestCost = NONE;
            for (int i = 0; i < size; i++) {
                before[i] = net.kept[changes[i]];
                net.kept[changes[i]] = false;
            }
            net.putEarliest(rows[0]);
            if (net.settle(rows[0])) {
                decide(this, 0, 0);
            }
            for (int i = 0; i < size; i++) {
                net.kept[changes[i]] = bestCost == NONE ? before[i] : best[i];
            }
            return bestCost;
        }

        /** Lists the changes that are there; false if they are too many. */
        private boolean gather() {
            size = 0;
            for (int a = 0; a < net.activities; a++) {
                if (net.kind[a] == CHANGE && net.joinsThere(a)) {
                    if (size >= MOST_CHOICES) {
                        return false;
                    }
                    changes[size] = a;
                    size++;
                }
            }
            return true;
        }

        /**
         * Decides the changes from the i-th on. To keep comes before to break, so that of like ways the
         * first met is the one to take; a way without a spread has none with more kept either.
         */
        private static void decide(Choice c, int i, int keptSoFar) {
            if (i >= c.size || i >= MOST_CHOICES) {
                c.weigh(c.travellers.sum(c.rows[i]), keptSoFar);
                return;
            }
            int change = c.changes[i];
            System.arraycopy(c.rows[i], 0, c.rows[i + 1], 0, c.net.events);
            c.net.kept[change] = true;
            if (c.net.isObeyed(change, c.rows[i + 1]) || c.net.settle(c.rows[i + 1])) {
                decide(c, i + 1, keptSoFar + 1);
            }
            System.arraycopy(c.rows[i], 0, c.rows[i + 1], 0, c.net.events);
            c.net.kept[change] = false;
            decide(c, i + 1, keptSoFar);
        }

        private void weigh(long found, int kept) {
            if (bestCost == NONE || found < bestCost || (found == bestCost && kept < bestKept)) {
                bestCost = found;
                bestKept = kept;
                for (int i = 0; i < size; i++) {
                    best[i] = net.kept[changes[i]];
                }
            }
        }
    }

    /** Keeps the changes that make nobody wait longer than allowed. */
    private static final class Rule {
        private final Net net;
        private final int[] order = new int[MOST_ACTIVITIES];
        private final int[] now = new int[MOST_EVENTS];
        private final int[] next = new int[MOST_EVENTS];

        Rule(Net ofNet) {
            net = ofNet;
        }

        /** Without a spread there are no minutes to keep a change by: all stay broken. */
        void follow(int allowance) {
            int size = breakAndSort();
            net.putEarliest(now);
            if (!net.settle(now)) {
                return;
            }
            for (int i = 0; i < size; i++) {
                tryToKeep(order[i], allowance);
            }
        }

        /** Breaks all changes; puts those that are there in order; how many these are. */
        private int breakAndSort() {
            int size = 0;
            for (int a = 0; a < net.activities; a++) {
                if (net.kind[a] == CHANGE) {
                    net.kept[a] = false;
                    if (net.joinsThere(a)) {
                        insert(a, size);
                        size++;
                    }
                }
            }
            return size;
        }

        private void insert(int change, int size) {
            int place = size;
            while (place > 0 && net.plan[net.to[order[place - 1]]] > net.plan[net.to[change]]) {
                order[place] = order[place - 1];
                place--;
            }
            order[place] = change;
        }

        private void tryToKeep(int change, int allowance) {
            if (now[net.from[change]] + net.least[change] > net.plan[net.to[change]] + allowance) {
                return;
            }
            System.arraycopy(now, 0, next, 0, net.events);
            net.kept[change] = true;
            if (net.settle(next)) {
                System.arraycopy(next, 0, now, 0, net.events);
            } else {
                net.kept[change] = false;
            }
        }
    }
}
