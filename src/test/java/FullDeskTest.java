/** Full desks and far-off arguments: every call ends and none throws, whatever stands on the desk. */
public final class FullDeskTest {
    private static final int[] FAR = {Integer.MIN_VALUE, -2, -1, 0, 1, 9, 10, 15, 16, 29, 30, 59, 60, 99, 100, 500, 501,
        1000, 1001, 2000, 2001, Integer.MAX_VALUE};
    private static final Check CHECK = new Check();

    private static long state = 5;

    public static void main(String[] args) {
        fullAndWithoutSpread();
        fullChoice();
        fullRule();
        for (int run = 0; run < 400; run++) {
            anyCalls(run);
        }
        CHECK.end();
    }

    private static int below(int bound) {
        state = state * 6364136223846793005L + 1442695040888963407L;
        return (int) Math.floorMod(state >>> 33, (long) bound);
    }

    /** 60 events of 15 trains, four a train, one after another. */
    private static DelayDesk withAllEvents() {
        DelayDesk x = new DelayDesk();
        for (int e = 0; e < 60; e++) {
            x.event(e / 4, 30 * (e % 4));
        }
        return x;
    }

    private static void fullAndWithoutSpread() {
        DelayDesk x = withAllEvents();
        for (int a = 0; a < 60; a++) {
            x.activity(a % 4 == 3 ? 3 : 0, a, (a + 1) % 60, 0);
        }
        for (int a = 60; a < 99; a++) {
            x.activity(3, 0, 59, 0);
        }
        CHECK.due("zeros all around", x.spread(), 1);
        CHECK.due("the hundredth activity", x.activity(3, 59, 4, 1), 99);
        CHECK.due("no spread", x.spread(), 0);
        CHECK.due("ring from its lowest", x.ring(0), 4);
        CHECK.due("ring of 56", x.ring(55), 99);
        CHECK.due("its end", x.ring(56), -1);
        CHECK.due("no choice", x.choose(), -1);
        CHECK.due("no rule", x.rule(0), 0);
        CHECK.due("turned", x.turn(99), true);
        int[] due = {0, 1, 2, 3, 99, 59, -1};
        for (int i = 0; i < due.length; i++) {
            CHECK.due("the ring now, " + i, x.ring(i), due[i]);
        }
    }

    /** 100 activities, ten of them changes from each train to the next, and 20 groups. */
    private static DelayDesk withTenChanges() {
        DelayDesk x = withAllEvents();
        for (int t = 0; t < 15; t++) {
            for (int i = 0; i < 3; i++) {
                x.activity(0, 4 * t + i, 4 * t + i + 1, 28);
            }
        }
        for (int t = 0; t < 10; t++) {
            int a = x.activity(2, 4 * t + 1, 4 * t + 6, 30);
            x.group(3 + t % 3, 4 * t, a, -1, 4 * t + 7, 70 + 5 * t);
            x.group(5 - t % 4, 4 * t, -1, -1, 4 * t + 3, 45);
        }
        for (int a = x.count(1); a < 100; a++) {
            x.activity(3, 0, 40 + a % 20, 1);
        }
        x.source(0, 40);
        x.source(21, 60);
        return x;
    }

    private static long costOf(int mask) {
        DelayDesk x = withTenChanges();
        for (int i = 0; i < 10; i++) {
            x.keep(45 + i, (mask >> i & 1) == 1);
        }
        return x.cost();
    }

    private static void fullChoice() {
        long least = Long.MAX_VALUE;
        int fewest = 11;
        for (int mask = 0; mask < 1024; mask++) {
            long cost = costOf(mask);
            if (cost < least || cost == least && Integer.bitCount(mask) < fewest) {
                least = cost;
                fewest = Integer.bitCount(mask);
            }
        }
        DelayDesk x = withTenChanges();
        CHECK.due("full", x.count(1), 100);
        CHECK.due("ten changes", x.count(3), 10);
        CHECK.due("the least of all", x.choose(), least);
        CHECK.due("fewest kept", x.count(3), fewest);
        CHECK.due("it stands", x.cost(), least);
        System.out.println("a full choice: " + fewest + " kept, cost " + least + ", all kept " + costOf(1023));
    }

    private static void fullRule() {
        DelayDesk x = withAllEvents();
        for (int a = 0; a < 100; a++) {
            x.activity(2, a % 28, 56 - a % 28, 5);
        }
        CHECK.due("a hundred changes are too many to choose", x.choose(), -1);
        CHECK.due("all stays", x.count(3), 100);
        int kept = x.rule(1000);
        CHECK.due("the rule leaves a spread", x.spread(), 1);
        CHECK.due("the rule tells what is kept", x.count(3), kept);
    }

    private static int any() {
        return below(3) == 0 ? FAR[below(FAR.length)] : below(below(4) == 0 ? 100 : 16);
    }

    private static void anyCalls(int run) {
        DelayDesk x = new DelayDesk();
        if (run % 2 == 0) {
            x = withAllEvents();
        }
        long sum = 0;
        for (int call = 0; call < 452; call++) {
            sum += run % 4 < 2 && call < 200 ? x.activity(below(5), below(60), below(60), below(3)) : anyCall(x);
        }
        CHECK.due("events stay within bounds", x.count(0) <= 60 && x.count(1) <= 100 && x.count(2) <= 30, true);
        CHECK.due("sum " + sum, x.spread() == 1, x.ring(0) == -1);
    }

    private static long anyCall(DelayDesk x) {
        switch (below(20)) {
            case 0: return x.event(any(), any());
            case 1: case 2: return x.activity(any(), any(), any(), any());
            case 3: return x.source(any(), any()) ? 1 : 0;
            case 4: return x.keep(any(), below(2) == 0) ? 1 : 0;
            case 5: return x.turn(any()) ? 1 : 0;
            case 6: return x.cancel(any(), below(4) == 0) ? 1 : 0;
            case 7: case 8: return x.group(any(), any(), any(), any(), any(), any());
            case 9: return x.spread();
            case 10: return x.of(any(), any());
            case 11: return x.look(any(), any());
            case 12: return x.cause(any());
            case 13: return x.way(any(), any());
            case 14: return x.ring(any());
            case 15: return x.told(any(), any());
            case 16: return x.cost() + x.recover();
            case 17: return x.choose();
            case 18: return x.rule(any());
            default: return x.count(any());
        }
    }
}
