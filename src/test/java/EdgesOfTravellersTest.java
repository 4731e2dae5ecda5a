/** Promises 15 to 18, sentence by sentence: just missed and just not, ten changes and eleven, draws, and the rule's w. */
public final class EdgesOfTravellersTest {
    private static final int NONE = -1;
    private static final int LEAST_INT = Integer.MIN_VALUE;
    private static final int GREATEST_INT = Integer.MAX_VALUE;
    private static final Check CHECK = new Check();

    public static void main(String[] args) {
        toldWhat();
        toldOfWhichGroup();
        toldWithoutSpread();
        missesIfBelow();
        missesOnlyBroken();
        missesTheFirstOrTheSecond();
        lacksAnyTrain();
        lacksNoOtherTrain();
        waitingOfNothing();
        latenessAtTheLastEvent();
        costOfNone();
        costOfAll();
        costGreatest();
        costWithoutSpread();
        choiceOfNoChanges();
        choiceOfTen();
        choiceOfTenOnAFullDesk();
        choiceOfEleven();
        choiceOfElevenBrokenOnes();
        choiceOfTenThatAreThere();
        choiceOfNoneWithSpread();
        choiceOnlyOfWaysWithSpread();
        choiceOfLeastCost();
        choiceOfFewestKept();
        choiceOfLowestNumber();
        choiceOfLowestWhereTwoDiffer();
        choiceAfterChoice();
        ruleOfWhichW();
        ruleOfNoChanges();
        ruleJustSo();
        ruleOfTheGreatestW();
        ruleBreaksAllFirst();
        ruleByPlanOfTheirEnds();
        ruleFromTheEarliestOn();
        ruleByNumberOfLikePlans();
        ruleByThoseKeptSoFar();
        ruleBrokenAgainWithoutSpread();
        ruleWithoutAnySpread();
        ruleOfHundred();
        ruleLeavesTheOthersKept();
        CHECK.end();
    }

    /** Event e of train e, all planned for one minute. */
    private static DelayDesk events(int number, int plan) {
        DelayDesk x = new DelayDesk();
        for (int e = 0; e < number; e++) {
            x.event(e % 16, plan);
        }
        return x;
    }

    /** From 0 by change 0 to 1, from 2 on the same train by change 1 to 3, and on to 4. */
    private static DelayDesk journey() {
        DelayDesk x = new DelayDesk();
        x.event(0, 100);
        x.event(1, 110);
        x.event(1, 130);
        x.event(2, 140);
        x.event(2, 170);
        x.activity(2, 0, 1, 5);
        x.activity(2, 2, 3, 5);
        x.group(3, 0, 0, 1, 4, 60);
        return x;
    }

    private static DelayDesk withoutSpread() {
        DelayDesk x = journey();
        x.activity(3, 1, 3, 0);
        x.activity(3, 3, 1, 1);
        return x;
    }

    /** Promise 15: "what 0 LATENESS, 1 whether it MISSES .., 2 how many. NONE for others". */
    private static void toldWhat() {
        DelayDesk x = journey();
        x.source(4, 8);
        int[] due = {8, 0, 3};
        for (int what = 0; what <= 2; what++) {
            CHECK.due("told, what " + what, x.told(0, what), due[what]);
        }
        for (int what : new int[] {LEAST_INT, -2, -1, 3, 4, GREATEST_INT}) {
            CHECK.due("told, what " + what, x.told(0, what), NONE);
        }
    }

    private static void toldOfWhichGroup() {
        DelayDesk x = journey();
        for (int g = 1; g < 29; g++) {
            x.group(1, 0, NONE, NONE, 0, 0);
        }
        for (int what = 0; what <= 2; what++) {
            for (int g : new int[] {LEAST_INT, -1, 29, 30, GREATEST_INT}) {
                CHECK.due("told " + g + " " + what, x.told(g, what), NONE);
            }
        }
        x.group(77, 4, NONE, NONE, 4, 0);
        x.source(4, 9);
        int[] due = {9, 0, 77};
        for (int what = 0; what <= 2; what++) {
            CHECK.due("told 29 " + what, x.told(29, what), due[what]);
            CHECK.due("told 30 " + what, x.told(30, what), NONE);
        }
    }

    /** Promise 15: "(0, 1: without a SPREAD)", though a train is lacking. */
    private static void toldWithoutSpread() {
        DelayDesk x = withoutSpread();
        int[] due = {NONE, NONE, 3};
        for (int what = 0; what <= 2; what++) {
            CHECK.due("without a spread: told " + what, x.told(0, what), due[what]);
        }
        x.cancel(0, true);
        CHECK.due("no spread still", x.spread(), 0);
        for (int what = 0; what <= 2; what++) {
            CHECK.due("without a spread and a train: told " + what, x.told(0, what), due[what]);
        }
    }

    /** Part 2: "the MINUTES of its end are below those of its beginning and LEAST together". */
    private static void missesIfBelow() {
        DelayDesk x = journey();
        x.keep(0, false);
        for (int minutes = 4; minutes <= 6; minutes++) {
            x.source(0, minutes);
            CHECK.due("misses at " + minutes, x.told(0, 1), minutes > 5 ? 1 : 0);
            CHECK.due("lateness at " + minutes, x.told(0, 0), minutes > 5 ? 60 : 0);
        }
    }

    /** Part 2: "if that is broken". */
    private static void missesOnlyBroken() {
        DelayDesk x = journey();
        x.source(0, 500);
        CHECK.due("kept", x.told(0, 1), 0);
        x.keep(0, false);
        CHECK.due("broken", x.told(0, 1), 1);
        x.keep(0, true);
        CHECK.due("kept again", x.told(0, 1), 0);
    }

    private static void missesTheFirstOrTheSecond() {
        DelayDesk x = journey();
        x.keep(0, false);
        x.keep(1, false);
        CHECK.due("neither", x.told(0, 0), 0);
        x.source(0, 6);
        CHECK.due("the first", x.told(0, 0), 60);
        x.source(0, 5);
        x.source(2, 6);
        CHECK.due("the second", x.told(0, 0), 60);
        x.source(0, 6);
        CHECK.due("both", x.told(0, 0), 60);
        CHECK.due("they wait but once", x.cost(), 180);
    }

    /** Part 2: "WAITING if .. a TRAIN is CANCELLED". */
    private static void lacksAnyTrain() {
        for (int train = 0; train < 3; train++) {
            DelayDesk x = journey();
            x.source(4, 9);
            CHECK.due("all trains go", x.told(0, 0), 9);
            x.cancel(train, true);
            CHECK.due("lacks train " + train, x.told(0, 1), 1);
            CHECK.due("waits for train " + train, x.told(0, 0), 60);
            x.cancel(train, false);
            CHECK.due("train again " + train, x.told(0, 0), 9);
        }
    }

    private static void lacksNoOtherTrain() {
        DelayDesk x = journey();
        for (int train = 3; train < 16; train++) {
            x.cancel(train, true);
        }
        CHECK.due("lacks none", x.told(0, 1), 0);
        x.group(1, 1, NONE, NONE, 2, 30);
        x.group(1, 0, 0, NONE, 2, 40);
        x.cancel(0, true);
        x.cancel(2, true);
        CHECK.due("within train 1", x.told(1, 1), 0);
        CHECK.due("from train 0", x.told(2, 1), 1);
        x.cancel(0, false);
        CHECK.due("from train 0 again", x.told(2, 1), 0);
        CHECK.due("on to train 2", x.told(0, 1), 1);
    }

    /** A WAITING of 0 is less than any lateness; it counts all the same. */
    private static void waitingOfNothing() {
        DelayDesk x = events(1, 100);
        x.group(5, 0, NONE, NONE, 0, 0);
        x.source(0, 7);
        CHECK.due("late", x.told(0, 0), 7);
        x.cancel(0, true);
        CHECK.due("waits for nothing", x.told(0, 0), 0);
        CHECK.due("but lacks a train", x.told(0, 1), 1);
        CHECK.due("no cost", x.cost(), 0);
    }

    /** Part 2: "else how LATE its last EVENT is". */
    private static void latenessAtTheLastEvent() {
        DelayDesk x = journey();
        for (int e = 0; e < 4; e++) {
            x.source(e, e == 3 ? 500 : 1);
        }
        CHECK.due("late before, not at the last", x.told(0, 0), 0);
        x.source(4, 1);
        CHECK.due("a minute late at the last", x.told(0, 0), 1);
        CHECK.due("cost", x.cost(), 3);
    }

    private static void costOfNone() {
        DelayDesk x = events(1, 100);
        x.source(0, 500);
        CHECK.due("no groups", x.cost(), 0);
        x.group(1, 0, NONE, NONE, 0, 0);
        CHECK.due("one traveller", x.cost(), 500);
    }

    /** Part 2: "the sum over all GROUPS". */
    private static void costOfAll() {
        DelayDesk x = events(2, 100);
        x.source(0, 2);
        long sum = 0;
        for (int g = 0; g < 30; g++) {
            x.group(1 + g, g % 2, NONE, NONE, g % 2, 0);
            sum += g % 2 == 0 ? 2L * (1 + g) : 0;
            CHECK.due("cost of " + g, x.cost(), sum);
        }
    }

    /** 30 times 1000 times 32000. */
    private static void costGreatest() {
        DelayDesk x = new DelayDesk();
        x.event(0, 2000);
        for (int e = 1; e < 60; e++) {
            x.event(e % 16, 0);
            x.activity(3, e - 1, e, 500);
        }
        x.source(0, 500);
        for (int g = 0; g < 30; g++) {
            x.group(1000, 59, NONE, NONE, 59, 1000);
        }
        CHECK.due("the greatest cost", x.cost(), 960000000L);
        CHECK.due("chosen", x.choose(), 960000000L);
        x.cancel(11, true);
        CHECK.due("waiting", x.cost(), 30000000L);
    }

    /** Promise 16: "NONE without a SPREAD". */
    private static void costWithoutSpread() {
        DelayDesk x = withoutSpread();
        CHECK.due("without a spread", x.cost(), NONE);
        x.turn(3);
        CHECK.due("with one", x.cost(), 0);
        DelayDesk y = events(2, 100);
        y.activity(4, 0, 1, 1);
        y.activity(4, 1, 0, 0);
        CHECK.due("no groups either", y.cost(), NONE);
    }

    private static void choiceOfNoChanges() {
        DelayDesk x = events(2, 100);
        x.activity(3, 0, 1, 4);
        x.group(2, 1, NONE, NONE, 1, 0);
        CHECK.due("nothing to choose", x.choose(), 8);
        CHECK.due("others stay kept", x.look(0, 4), 1);
    }

    /** From train 0, 10 minutes late, a change to each of the next: to keep it costs less, by 10 for each. */
    private static DelayDesk star(int changes) {
        DelayDesk x = new DelayDesk();
        x.event(0, 100);
        x.source(0, 10);
        for (int i = 0; i < changes; i++) {
            x.event(1 + i, 100);
            x.activity(2, 0, 1 + i, 0);
            x.group(1, 0, i, NONE, 1 + i, 20);
        }
        return x;
    }

    /** Part 2: "10 at most, else none"; promise 17: "NONE: there are more than 10 CHANGES". */
    private static void choiceOfTen() {
        DelayDesk x = star(10);
        for (int a = 0; a < 10; a++) {
            x.keep(a, false);
        }
        CHECK.due("all broken", x.cost(), 200);
        CHECK.due("ten", x.choose(), 100);
        CHECK.due("all kept", x.count(3), 10);
    }

    private static void choiceOfTenOnAFullDesk() {
        DelayDesk x = star(10);
        for (int e = 11; e < 60; e++) {
            x.event(11 + e % 5, 100);
        }
        for (int a = 10; a < 100; a++) {
            x.activity(4, 11, 12 + a % 4, 0);
        }
        for (int g = 10; g < 30; g++) {
            x.group(1000, 12, NONE, NONE, 12, 0);
        }
        CHECK.due("100 activities", x.count(1), 100);
        CHECK.due("30 groups", x.count(2), 30);
        CHECK.due("all kept", x.cost(), 100);
        CHECK.due("ten of a hundred", x.choose(), 100);
        CHECK.due("all kept still", x.count(3), 10);
        x.source(0, 20);
        CHECK.due("no longer worth it", x.choose(), 200);
        CHECK.due("none kept", x.count(3), 0);
    }

    private static void choiceOfEleven() {
        DelayDesk x = star(11);
        x.keep(0, false);
        x.keep(10, false);
        CHECK.due("eleven", x.choose(), NONE);
        CHECK.due("the first stays broken", x.look(0, 4), 0);
        CHECK.due("the last stays broken", x.look(10, 4), 0);
        CHECK.due("the others stay kept", x.count(3), 9);
        CHECK.due("cost as before", x.cost(), 9 * 10 + 2 * 20);
    }

    private static void choiceOfElevenBrokenOnes() {
        DelayDesk x = star(11);
        for (int a = 0; a < 11; a++) {
            x.keep(a, false);
        }
        CHECK.due("eleven broken ones", x.choose(), NONE);
        CHECK.due("all stay broken", x.count(3), 0);
    }

    /** Part 2: "(of those that are there". */
    private static void choiceOfTenThatAreThere() {
        DelayDesk x = star(11);
        for (int a = 0; a < 11; a++) {
            x.keep(a, false);
        }
        x.cancel(4, true);
        CHECK.due("ten are there", x.choose(), 10 * 10 + 20);
        CHECK.due("ten are kept", x.count(3), 10);
        CHECK.due("the one not there is not", x.look(3, 4), 0);
        x.cancel(4, false);
        CHECK.due("eleven are there again", x.choose(), NONE);
        x.cancel(0, true);
        CHECK.due("none is there", x.choose(), 11 * 20);
        CHECK.due("all stay as they are", x.count(3), 10);
    }

    /** Promise 17: "or none has a SPREAD (all stays)". */
    private static void choiceOfNoneWithSpread() {
        DelayDesk x = withoutSpread();
        x.keep(1, false);
        CHECK.due("none has a spread", x.choose(), NONE);
        CHECK.due("kept stays", x.look(0, 4), 1);
        CHECK.due("broken stays", x.look(1, 4), 0);
    }

    /** Part 2: "of all ways with a SPREAD". */
    private static void choiceOnlyOfWaysWithSpread() {
        DelayDesk x = events(2, 100);
        x.activity(2, 0, 1, 0);
        x.activity(2, 1, 0, 1);
        x.group(1, 0, 0, NONE, 1, 100);
        x.group(5, 1, 1, NONE, 0, 100);
        CHECK.due("both kept: no spread", x.cost(), NONE);
        CHECK.due("one of them", x.choose(), 100 + 5);
        CHECK.due("the first is broken", x.look(0, 4), 0);
        CHECK.due("the second is kept", x.look(1, 4), 1);
    }

    private static void choiceOfLeastCost() {
        for (int waiting = 9; waiting <= 11; waiting++) {
            DelayDesk x = events(2, 100);
            x.activity(2, 0, 1, 0);
            x.source(0, 10);
            x.group(1, 0, 0, NONE, 1, waiting);
            CHECK.due("cost, waiting " + waiting, x.choose(), Math.min(waiting, 10));
            CHECK.due("kept, waiting " + waiting, x.look(0, 4), waiting > 10 ? 1 : 0);
        }
    }

    /** Part 2: "of like ones the one with fewest KEPT". */
    private static void choiceOfFewestKept() {
        DelayDesk x = star(10);
        x.source(0, 20);
        CHECK.due("like cost, kept or not", x.choose(), 200);
        CHECK.due("none kept", x.count(3), 0);
        DelayDesk y = events(4, 100);
        y.activity(2, 0, 1, 0);
        y.activity(2, 0, 2, 0);
        CHECK.due("no groups", y.choose(), 0);
        CHECK.due("none kept without groups", y.count(3), 0);
    }

    /** Three ends bound to one another: one change is enough, whichever. */
    private static DelayDesk bound(int changes) {
        DelayDesk x = events(1 + changes, 100);
        x.source(0, 10);
        for (int i = 1; i <= changes; i++) {
            x.activity(3, i, i % changes + 1, 0);
        }
        for (int i = changes; i >= 1; i--) {
            int a = x.activity(2, 0, i, 0);
            x.group(1, 0, a, NONE, i, 100);
        }
        return x;
    }

    /** Part 2: "that which keeps the CHANGE of the lowest number in which two differ". */
    private static void choiceOfLowestNumber() {
        for (int changes = 2; changes <= 10; changes++) {
            DelayDesk x = bound(changes);
            CHECK.due("one of " + changes, x.choose(), 10 * changes);
            CHECK.due("one is kept", x.count(3), 1);
            CHECK.due("the lowest", x.look(changes, 4), 1);
        }
    }

    /** Two pairs; of each one is enough: the lower of the one and the lower of the other. */
    private static void choiceOfLowestWhereTwoDiffer() {
        DelayDesk x = events(5, 100);
        x.source(0, 10);
        for (int pair = 1; pair <= 3; pair += 2) {
            x.activity(3, pair, pair + 1, 0);
            x.activity(3, pair + 1, pair, 0);
        }
        int[] ends = {3, 1, 4, 2};
        for (int end : ends) {
            int a = x.activity(2, 0, end, 0);
            x.group(1, 0, a, NONE, end, 100);
        }
        CHECK.due("two of four", x.choose(), 40);
        int[] due = {1, 1, 0, 0};
        for (int i = 0; i < 4; i++) {
            CHECK.due("two of four, " + i, x.look(4 + i, 4), due[i]);
        }
    }

    private static void choiceAfterChoice() {
        DelayDesk x = bound(3);
        for (int a = 3; a <= 5; a++) {
            x.keep(a, false);
        }
        CHECK.due("they all miss it", x.cost(), 300);
        CHECK.due("chosen", x.choose(), 30);
        CHECK.due("asked anew", x.cost(), 30);
        CHECK.due("chosen again", x.choose(), 30);
        CHECK.due("the same one", x.look(3, 4), 1);
        CHECK.due("it stands", x.cost(), 30);
    }

    /** Promise 18: "NONE: no such w" (0 to 1000). */
    private static void ruleOfWhichW() {
        DelayDesk x = star(3);
        x.keep(1, false);
        for (int w : new int[] {LEAST_INT, -1000, -2, -1, 1001, 1002, GREATEST_INT}) {
            CHECK.due("rule " + w, x.rule(w), NONE);
            CHECK.due("all stays", x.count(3), 2);
            CHECK.due("1 stays broken", x.look(1, 4), 0);
        }
        CHECK.due("rule 0", x.rule(0), 0);
        CHECK.due("none kept", x.count(3), 0);
        CHECK.due("rule 1000", x.rule(1000), 3);
        CHECK.due("all kept", x.count(3), 3);
    }

    private static void ruleOfNoChanges() {
        DelayDesk x = events(2, 100);
        x.activity(3, 0, 1, 4);
        CHECK.due("rule 0", x.rule(0), 0);
        CHECK.due("rule 1000", x.rule(1000), 0);
        CHECK.due("others stay", x.of(1, 1), 4);
    }

    /** Part 2: "not more than w above the PLAN of its end". */
    private static void ruleJustSo() {
        DelayDesk x = new DelayDesk();
        x.event(0, 100);
        x.event(1, 120);
        x.activity(2, 0, 1, 15);
        for (int minutes = 4; minutes <= 6; minutes++) {
            x.source(0, minutes);
            CHECK.due("w 0, source " + minutes, x.rule(0), minutes <= 5 ? 1 : 0);
        }
        for (int w = 0; w <= 2; w++) {
            CHECK.due("source 6, w " + w, x.rule(w), w >= 1 ? 1 : 0);
        }
    }

    private static void ruleOfTheGreatestW() {
        DelayDesk x = new DelayDesk();
        x.event(0, 500);
        x.event(1, 0);
        x.activity(2, 0, 1, 500);
        CHECK.due("w 999", x.rule(999), 0);
        CHECK.due("w 1000, just so", x.rule(1000), 1);
        x.source(0, 1);
        CHECK.due("w 1000, a minute more", x.rule(1000), 0);
    }

    /** Part 2: "all CHANGES are broken; then one by one". */
    private static void ruleBreaksAllFirst() {
        DelayDesk x = events(3, 100);
        x.activity(2, 0, 1, 6);
        x.activity(2, 1, 2, 0);
        CHECK.due("both kept", x.of(2, 1), 6);
        CHECK.due("w 5: only the second", x.rule(5), 1);
        CHECK.due("the first is broken", x.look(0, 4), 0);
        CHECK.due("the second is kept", x.look(1, 4), 1);
        CHECK.due("nobody late", x.count(4), 0);
    }

    /** Part 2: "by the PLAN of their ends": the second's end comes first and makes the first's too late. */
    private static void ruleByPlanOfTheirEnds() {
        DelayDesk x = new DelayDesk();
        x.event(0, 100);
        x.event(1, 99);
        x.event(2, 100);
        x.activity(2, 1, 2, 1);
        x.activity(2, 0, 1, 5);
        CHECK.due("w 6: both", x.rule(6), 2);
        CHECK.due("w 6: late", x.of(2, 1), 6);
        DelayDesk y = new DelayDesk();
        y.event(0, 100);
        y.event(1, 99);
        y.event(2, 100);
        y.activity(2, 1, 2, 2);
        y.activity(2, 0, 1, 5);
        CHECK.due("the end of 99 first", y.rule(6), 1);
        CHECK.due("it is kept", y.look(1, 4), 1);
        CHECK.due("the end of 100 is too late then", y.look(0, 4), 0);
    }

    /** Made from the latest to the earliest and in between: each may be kept only if those before it are. */
    private static void ruleFromTheEarliestOn() {
        DelayDesk x = new DelayDesk();
        for (int e = 0; e < 6; e++) {
            x.event(e, 100 + e);
        }
        int[] ends = {5, 3, 4, 1, 2};
        for (int end : ends) {
            x.activity(2, end - 1, end, 2);
        }
        int[][] due = {{0, 0, 0, 0, 0}, {1, 1, 0, 1, 0}, {1, 0, 1, 1, 1}, {1, 1, 0, 1, 1}, {0, 1, 1, 1, 1}, {1, 1, 1, 1, 1}};
        for (int w = 0; w <= 5; w++) {
            int kept = x.rule(w);
            int sum = 0;
            for (int a = 0; a < 5; a++) {
                CHECK.due("w " + w + ", change " + a, x.look(a, 4), due[w][a]);
                sum += due[w][a];
            }
            CHECK.due("w " + w, kept, sum);
        }
    }

    /** Part 2: "then by number". */
    private static void ruleByNumberOfLikePlans() {
        DelayDesk x = events(3, 100);
        x.activity(2, 0, 1, 3);
        x.activity(2, 1, 2, 3);
        CHECK.due("in the order of numbers", x.rule(3), 1);
        CHECK.due("0 is kept", x.look(0, 4), 1);
        CHECK.due("1 comes too late", x.look(1, 4), 0);
        DelayDesk y = events(3, 100);
        y.activity(2, 1, 2, 3);
        y.activity(2, 0, 1, 3);
        CHECK.due("the other order", y.rule(3), 2);
        CHECK.due("late in the end", y.of(2, 1), 6);
    }

    /** Part 2: "(by THE SPREAD with those KEPT so far". */
    private static void ruleByThoseKeptSoFar() {
        DelayDesk x = new DelayDesk();
        for (int e = 0; e < 5; e++) {
            x.event(e, 100 + e);
            if (e > 0) {
                x.activity(2, e - 1, e, 2);
            }
        }
        int[] due = {0, 2, 3, 3, 4};
        for (int w = 0; w <= 4; w++) {
            CHECK.due("kept by w " + w, x.rule(w), due[w]);
        }
    }

    /** Part 2: "without a SPREAD it is broken again". */
    private static void ruleBrokenAgainWithoutSpread() {
        DelayDesk x = events(3, 100);
        x.activity(2, 0, 1, 0);
        x.activity(2, 1, 0, 1);
        x.activity(2, 0, 2, 0);
        CHECK.due("but one of the ring", x.rule(1000), 2);
        CHECK.due("0 is kept", x.look(0, 4), 1);
        CHECK.due("1 is broken again", x.look(1, 4), 0);
        CHECK.due("2 is kept after it", x.look(2, 4), 1);
        CHECK.due("a spread", x.spread(), 1);
        DelayDesk y = events(2, 100);
        y.activity(2, 0, 1, 0);
        y.activity(2, 1, 0, 0);
        CHECK.due("a ring of no minutes", y.rule(0), 2);
    }

    private static void ruleWithoutAnySpread() {
        DelayDesk x = withoutSpread();
        CHECK.due("no spread at all", x.rule(1000), 0);
        CHECK.due("all broken", x.count(3), 0);
        CHECK.due("not by w -1", x.rule(-1), NONE);
    }

    private static void ruleOfHundred() {
        DelayDesk x = events(60, 100);
        for (int a = 0; a < 100; a++) {
            x.activity(2, a % 59, a % 59 + 1, 0);
        }
        CHECK.due("all of a hundred", x.rule(0), 100);
        x.source(0, 1);
        CHECK.due("w 0, a minute late: but those from 0", x.rule(0), 98);
        CHECK.due("0 is broken", x.look(0, 4), 0);
        CHECK.due("59 is broken", x.look(59, 4), 0);
        CHECK.due("99 is kept", x.look(99, 4), 1);
        CHECK.due("w 1", x.rule(1), 100);
    }

    /** Part 1: "all others are always KEPT". */
    private static void ruleLeavesTheOthersKept() {
        DelayDesk x = new DelayDesk();
        x.event(0, 100);
        x.event(0, 100);
        x.event(1, 100);
        for (int kind = 0; kind <= 4; kind++) {
            x.activity(kind, 0, kind <= 1 ? 1 : 2, 9);
        }
        CHECK.due("rule 0", x.rule(0), 0);
        for (int kind = 0; kind <= 4; kind++) {
            CHECK.due("kept after the rule, kind " + kind, x.look(kind, 4), kind == 2 ? 0 : 1);
        }
        x.keep(2, true);
        CHECK.due("choose", x.choose(), 0);
        for (int kind = 0; kind <= 4; kind++) {
            CHECK.due("kept after the choice, kind " + kind, x.look(kind, 4), kind == 2 ? 0 : 1);
        }
    }
}
