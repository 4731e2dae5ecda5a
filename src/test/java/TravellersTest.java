/** Promises 15 to 18: the travellers, what lateness costs them, the choice and the rule. */
public final class TravellersTest {
    private static final Check CHECK = new Check();

    public static void main(String[] args) {
        lateness();
        missedSecondChange();
        lackingTrains();
        greatCost();
        wrongQuestions();
        choiceOfLeastCost();
        choiceOfFewestKept();
        choiceOfLowestNumber();
        choiceWithoutSpread();
        choiceOfTenAndEleven();
        choiceLeavesWhatIsNotThere();
        ruleByPlan();
        ruleByNumber();
        ruleWithRings();
        ruleAndCancelled();
        CHECK.end();
    }

    private static DelayDesk withEvents(int... trainsAndPlans) {
        DelayDesk x = new DelayDesk();
        for (int i = 0; i + 1 < trainsAndPlans.length; i += 2) {
            x.event(trainsAndPlans[i], trainsAndPlans[i + 1]);
        }
        return x;
    }

    private static void lateness() {
        DelayDesk x = withEvents(0, 10, 1, 15, 1, 40);
        x.activity(2, 0, 1, 5);
        x.activity(0, 1, 2, 20);
        x.group(4, 0, 0, -1, 2, 60);
        CHECK.due("on time", x.told(0, 0), 0);
        x.source(0, 8);
        CHECK.due("late at its last", x.told(0, 0), 3);
        CHECK.due("misses none", x.told(0, 1), 0);
        CHECK.due("cost", x.cost(), 12);
        x.keep(0, false);
        CHECK.due("misses it", x.told(0, 1), 1);
        CHECK.due("waits", x.told(0, 0), 60);
        CHECK.due("cost of waiting", x.cost(), 240);
        x.source(1, 8);
        CHECK.due("broken, but just in time", x.told(0, 1), 0);
        CHECK.due("late as its last", x.told(0, 0), 3);
        x.source(1, 7);
        CHECK.due("a minute short", x.told(0, 1), 1);
    }

    private static void missedSecondChange() {
        DelayDesk x = withEvents(0, 10, 1, 15, 1, 40, 2, 40, 2, 50);
        x.activity(2, 0, 1, 5);
        x.activity(2, 2, 3, 0);
        x.group(2, 0, 0, 1, 4, 7);
        x.group(3, 0, 0, -1, 2, 9);
        x.source(2, 1);
        x.keep(1, false);
        CHECK.due("misses the second", x.told(0, 1), 1);
        CHECK.due("waits", x.told(0, 0), 7);
        CHECK.due("the other has no second", x.told(1, 1), 0);
        CHECK.due("cost", x.cost(), 17);
    }

    private static void lackingTrains() {
        DelayDesk x = withEvents(0, 10, 1, 15, 1, 40, 2, 40, 2, 50, 3, 0);
        x.activity(2, 0, 1, 5);
        x.activity(2, 2, 3, 0);
        x.group(2, 0, 0, 1, 4, 7);
        x.group(5, 0, -1, -1, 0, 11);
        for (int train = 0; train < 3; train++) {
            x.cancel(train, true);
            CHECK.due("lacks train " + train, x.told(0, 1), 1);
            CHECK.due("waits for train " + train, x.told(0, 0), 7);
            CHECK.due("the other, train " + train, x.told(1, 1), train == 0 ? 1 : 0);
            CHECK.due("cost, train " + train, x.cost(), train == 0 ? 69 : 14);
            x.cancel(train, false);
        }
        x.cancel(3, true);
        CHECK.due("another train", x.told(0, 1), 0);
        CHECK.due("no cost", x.cost(), 0);
    }

    private static void greatCost() {
        DelayDesk x = new DelayDesk();
        for (int e = 0; e < 60; e++) {
            x.event(e % 16, 0);
        }
        for (int e = 0; e < 59; e++) {
            x.activity(3, e, e + 1, 500);
        }
        x.source(0, 500);
        for (int g = 0; g < 30; g++) {
            x.group(1000, 59, -1, -1, 59, 1000);
        }
        CHECK.due("cost", x.cost(), 30L * 1000 * 30000);
        CHECK.due("choose", x.choose(), 30L * 1000 * 30000);
    }

    private static void wrongQuestions() {
        DelayDesk x = withEvents(0, 10);
        x.group(4, 0, -1, -1, 0, 60);
        CHECK.due("told: what 3", x.told(0, 3), -1);
        CHECK.due("told: what -1", x.told(0, -1), -1);
        CHECK.due("told: group 1", x.told(1, 2), -1);
        CHECK.due("told: group -1", x.told(-1, 2), -1);
        CHECK.due("rule: -1", x.rule(-1), -1);
        CHECK.due("rule: 1001", x.rule(1001), -1);
        CHECK.due("rule: 0", x.rule(0), 0);
        CHECK.due("rule: 1000", x.rule(1000), 0);
    }

    /** Changes from train 0, 10 minutes late, to trains 1 and up, each with a group over it and one within. */
    private static DelayDesk star(int changes, int over, int within) {
        DelayDesk x = new DelayDesk();
        x.event(0, 100);
        x.source(0, 10);
        for (int i = 0; i < changes; i++) {
            int e = x.event(1 + i, 100);
            int a = x.activity(2, 0, e, 0);
            x.group(over, 0, a, -1, e, 30);
            x.group(within, e, -1, -1, e, 0);
        }
        return x;
    }

    private static void choiceOfLeastCost() {
        DelayDesk x = star(3, 2, 3);
        x.keep(1, false);
        CHECK.due("all are kept", x.choose(), 3 * 50);
        CHECK.due("3 are kept", x.count(3), 3);
        CHECK.due("it stands", x.cost(), 150);
        DelayDesk y = star(3, 2, 5);
        CHECK.due("all are broken", y.choose(), 3 * 60);
        CHECK.due("none is kept", y.count(3), 0);
        CHECK.due("the others wait for none", y.of(1, 1), 0);
    }

    private static void choiceOfFewestKept() {
        DelayDesk x = star(4, 2, 4);
        CHECK.due("like cost", x.choose(), 4 * 60);
        CHECK.due("fewest kept", x.count(3), 0);
    }

    private static void choiceOfLowestNumber() {
        DelayDesk x = withEvents(0, 100, 1, 100, 2, 100, 3, 100);
        x.source(0, 10);
        x.activity(3, 1, 2, 0);
        x.activity(3, 2, 3, 0);
        x.activity(3, 3, 1, 0);
        x.activity(2, 0, 3, 0);
        x.activity(2, 0, 1, 0);
        x.activity(2, 0, 2, 0);
        for (int a = 3; a <= 5; a++) {
            x.group(1, 0, a, -1, x.look(a, 2), 100);
        }
        CHECK.due("one is enough for all", x.choose(), 30);
        CHECK.due("the lowest", x.look(3, 4), 1);
        CHECK.due("alone", x.count(3), 1);
    }

    private static void choiceWithoutSpread() {
        DelayDesk x = withEvents(0, 10, 1, 10, 2, 10);
        x.activity(2, 0, 1, 1);
        x.activity(2, 1, 0, 1);
        x.group(9, 0, 0, -1, 1, 50);
        x.group(1, 1, 1, -1, 0, 50);
        CHECK.due("no spread", x.spread(), 0);
        CHECK.due("one of the two", x.choose(), 9 + 50);
        CHECK.due("kept", x.look(0, 4), 1);
        CHECK.due("broken", x.look(1, 4), 0);
        x.keep(0, false);
        x.activity(3, 1, 2, 0);
        x.activity(3, 2, 1, 1);
        CHECK.due("no way has a spread", x.choose(), -1);
        CHECK.due("all stays: 0", x.look(0, 4), 0);
        CHECK.due("all stays: 1", x.look(1, 4), 0);
        x.keep(1, true);
        CHECK.due("no way has a spread", x.choose(), -1);
        CHECK.due("all stays: 1 kept", x.look(1, 4), 1);
    }

    private static void choiceOfTenAndEleven() {
        DelayDesk x = star(10, 1, 1);
        CHECK.due("ten", x.choose(), 10 * 20);
        CHECK.due("ten kept", x.count(3), 10);
        DelayDesk y = star(11, 2, 5);
        y.keep(4, false);
        CHECK.due("eleven", y.choose(), -1);
        CHECK.due("all stays", y.count(3), 10);
        y.cancel(11, true);
        CHECK.due("ten are there", y.choose(), 10 * 60 + 2 * 30);
        CHECK.due("but the one not there", y.count(3), 1);
    }

    private static void choiceLeavesWhatIsNotThere() {
        DelayDesk x = star(2, 2, 5);
        x.cancel(1, true);
        CHECK.due("the other is broken", x.choose(), 60 + 60);
        CHECK.due("not there: stays kept", x.look(0, 4), 1);
        CHECK.due("there: broken", x.look(1, 4), 0);
    }

    private static void ruleByPlan() {
        DelayDesk x = withEvents(0, 100, 1, 120, 1, 130, 2, 110, 3, 135);
        x.activity(0, 1, 2, 10);
        x.activity(2, 2, 4, 0);
        x.activity(2, 0, 1, 0);
        x.activity(2, 0, 3, 5);
        x.source(0, 30);
        x.keep(0, false);
        CHECK.due("w 9: only the one with room", x.rule(9), 1);
        CHECK.due("w 9: its end", x.of(4, 1), 0);
        CHECK.due("w 10: the earlier makes the later more late", x.rule(10), 2);
        CHECK.due("w 10: 1", x.look(1, 4), 1);
        CHECK.due("w 10: 2", x.look(2, 4), 1);
        CHECK.due("w 10: 3", x.look(3, 4), 0);
        CHECK.due("w 10: at the last", x.of(4, 1), 5);
        CHECK.due("w 24", x.rule(24), 2);
        CHECK.due("w 25", x.rule(25), 3);
        CHECK.due("a run is no change", x.look(0, 4), 1);
    }

    private static void ruleByNumber() {
        DelayDesk x = withEvents(0, 100, 1, 100);
        x.activity(2, 0, 1, 1);
        x.activity(2, 1, 0, 1);
        CHECK.due("no spread", x.spread(), 0);
        CHECK.due("one of the two", x.rule(5), 1);
        CHECK.due("the lower number", x.look(0, 4), 1);
        CHECK.due("the other is broken again", x.look(1, 4), 0);
        CHECK.due("none in time", x.rule(0), 0);
    }

    private static void ruleWithRings() {
        DelayDesk x = withEvents(0, 100, 1, 100, 2, 100);
        x.activity(2, 0, 1, 0);
        x.activity(3, 1, 2, 0);
        x.activity(3, 2, 1, 1);
        CHECK.due("no minutes, none kept", x.rule(1000), 0);
        CHECK.due("broken", x.look(0, 4), 0);
        x.turn(2);
        CHECK.due("minutes again", x.rule(0), 1);
    }

    private static void ruleAndCancelled() {
        DelayDesk x = withEvents(0, 100, 1, 100, 2, 100);
        x.activity(2, 0, 1, 0);
        x.activity(2, 0, 2, 0);
        x.cancel(1, true);
        CHECK.due("only what is there", x.rule(0), 1);
        CHECK.due("not there: broken with all", x.look(0, 4), 0);
        CHECK.due("there: kept", x.look(1, 4), 1);
    }
}
