/** Promises 9 to 14, 19 and 20, sentence by sentence: just so, a minute more, a minute less, none, and all. */
public final class EdgesOfSpreadTest {
    private static final int NONE = -1;
    private static final int LEAST_INT = Integer.MIN_VALUE;
    private static final int GREATEST_INT = Integer.MAX_VALUE;
    private static final Check CHECK = new Check();

    public static void main(String[] args) {
        ringsOfNoMinutes();
        ringsOfOneMinute();
        ringsOfKeptActivitiesOnly();
        ringsOfWhatIsThereOnly();
        ringsOfAllEvents();
        notBelowPlanAndSource();
        notBelowBeginningAndLeast();
        greatestMinutes();
        ofWhat();
        ofWhichEvent();
        ofWithoutSpread();
        ofWhatIsNotThere();
        lookWhat();
        lookAtWhichActivity();
        slackFromEndToEnd();
        slackOfMinusOne();
        bindsJustSo();
        bindsOnlyTheLate();
        bindsMoreThanTheSource();
        bindsWithoutSpread();
        bindsOnlyWhatIsThere();
        causeOfNone();
        causeOfFirstOnes();
        causeOfPlansThatDoNotFit();
        causeOfLowestNumber();
        causeWithLateBeginning();
        causeWithoutSpread();
        wayOfItself();
        wayOfSixty();
        wayBeforeAndBeyond();
        wayThatComesAgain();
        wayOfNone();
        ringWithSpread();
        ringOfTwo();
        ringOfFewest();
        ringOfLeastNumbers();
        ringFromItsLowestOn();
        ringAboveNoMinutes();
        ringWithItsMinuteAnywhere();
        ringBesideOneOfNoMinutes();
        ringBeforeAndBeyond();
        ringOfSixty();
        recoverOfNone();
        recoverOfTheGreatest();
        recoverWithoutSpread();
        countWhat();
        countFull();
        countKeptChanges();
        countLate();
        countWithoutSpread();
        countTightOnes();
        askedOfAFullDesk();
        lastCallOfAll();
        CHECK.end();
    }

    /** So many events of the trains 0, 1, 2 and so on, all planned for one minute. */
    private static DelayDesk events(int number, int plan) {
        DelayDesk x = new DelayDesk();
        for (int e = 0; e < number; e++) {
            x.event(e % 16, plan);
        }
        return x;
    }

    /** Headways from each event to the next, of so many minutes. */
    private static DelayDesk chain(int number, int least) {
        DelayDesk x = events(number, 100);
        for (int e = 0; e + 1 < number; e++) {
            x.activity(3, e, e + 1, least);
        }
        return x;
    }

    private static DelayDesk withoutSpread() {
        DelayDesk x = events(4, 100);
        x.activity(3, 0, 1, 1);
        x.activity(3, 1, 0, 0);
        x.activity(2, 2, 3, 7);
        x.source(2, 9);
        return x;
    }

    /** Part 1: "a RING of KEPT ACTIVITIES whose LEAST are above 0 together": 0 together is no such ring. */
    private static void ringsOfNoMinutes() {
        DelayDesk x = chain(3, 0);
        x.activity(3, 2, 0, 0);
        CHECK.due("three of no minutes", x.spread(), 1);
        CHECK.due("no ring", x.ring(0), NONE);
        x.source(1, 4);
        CHECK.due("all alike late: 0", x.of(0, 1), 4);
        CHECK.due("all alike late: 2", x.of(2, 1), 4);
        DelayDesk y = chain(60, 0);
        y.activity(3, 59, 0, 0);
        y.source(59, 500);
        CHECK.due("sixty of no minutes", y.spread(), 1);
        CHECK.due("all alike late: 58", y.of(58, 1), 500);
        CHECK.due("sixty are late", y.count(4), 60);
    }

    private static void ringsOfOneMinute() {
        for (int at = 0; at < 3; at++) {
            DelayDesk x = events(3, 100);
            for (int a = 0; a < 3; a++) {
                x.activity(3, a, (a + 1) % 3, a == at ? 1 : 0);
            }
            CHECK.due("a minute in activity " + at, x.spread(), 0);
        }
    }

    private static void ringsOfKeptActivitiesOnly() {
        DelayDesk x = events(2, 100);
        x.activity(2, 0, 1, 500);
        x.activity(2, 1, 0, 500);
        CHECK.due("both kept", x.spread(), 0);
        x.keep(0, false);
        CHECK.due("one broken", x.spread(), 1);
        CHECK.due("by the other one", x.of(0, 0), 600);
        x.keep(0, true);
        x.keep(1, false);
        CHECK.due("the other broken", x.spread(), 1);
        CHECK.due("by the one", x.of(1, 0), 600);
        x.keep(0, false);
        CHECK.due("both broken", x.spread(), 1);
        CHECK.due("by none", x.count(4), 0);
    }

    private static void ringsOfWhatIsThereOnly() {
        DelayDesk x = chain(3, 5);
        x.activity(3, 2, 0, 5);
        for (int train = 0; train < 3; train++) {
            CHECK.due("all there", x.spread(), 0);
            x.cancel(train, true);
            CHECK.due("not there " + train, x.spread(), 1);
            x.cancel(train, false);
        }
        x.cancel(3, true);
        CHECK.due("another train", x.spread(), 0);
    }

    private static void ringsOfAllEvents() {
        DelayDesk x = chain(60, 500);
        CHECK.due("sixty in a row", x.spread(), 1);
        x.activity(3, 59, 0, 0);
        CHECK.due("sixty in a ring", x.spread(), 0);
        DelayDesk y = events(60, 100);
        for (int e = 59; e > 0; e--) {
            y.activity(3, e, e - 1, 500);
        }
        CHECK.due("sixty in a row, back", y.spread(), 1);
        CHECK.due("the first is last", y.of(0, 0), 100 + 59 * 500);
        y.activity(2, 0, 59, 0);
        CHECK.due("sixty in a ring, back", y.spread(), 0);
        y.keep(59, false);
        CHECK.due("broken", y.spread(), 1);
    }

    /** Part 1: "not below its PLAN and SOURCE together". */
    private static void notBelowPlanAndSource() {
        DelayDesk x = events(1, 2000);
        CHECK.due("no source", x.of(0, 0), 2000);
        x.source(0, 500);
        CHECK.due("the greatest source", x.of(0, 0), 2500);
        DelayDesk y = events(1, 0);
        CHECK.due("at minute 0", y.of(0, 0), 0);
        CHECK.due("not late", y.of(0, 1), 0);
        y.source(0, 1);
        CHECK.due("a minute late", y.of(0, 1), 1);
    }

    /** Part 1: "not below those of its beginning and LEAST together". */
    private static void notBelowBeginningAndLeast() {
        DelayDesk x = new DelayDesk();
        x.event(0, 100);
        x.event(0, 110);
        x.activity(0, 0, 1, 9);
        x.source(0, 1);
        CHECK.due("slack takes all", x.of(1, 1), 0);
        x.source(0, 2);
        CHECK.due("a minute more", x.of(1, 1), 1);
        x.source(1, 1);
        CHECK.due("like the source", x.of(1, 1), 1);
        x.source(1, 2);
        CHECK.due("less than the source", x.of(1, 1), 2);
        x.activity(1, 0, 1, 12);
        CHECK.due("the longer of two", x.of(1, 0), 114);
    }

    /** From 2000 and 500 on, by 59 times 500. */
    private static void greatestMinutes() {
        DelayDesk x = new DelayDesk();
        x.event(0, 2000);
        for (int e = 1; e < 60; e++) {
            x.event(e % 16, 0);
            x.activity(3, e - 1, e, 500);
        }
        x.source(0, 500);
        x.group(1000, 59, NONE, NONE, 59, 0);
        CHECK.due("the last", x.of(59, 0), 32000);
        CHECK.due("as late", x.of(59, 1), 32000);
        CHECK.due("recover", x.recover(), 32000);
        CHECK.due("cost", x.cost(), 32000000L);
        CHECK.due("the first on its way", x.way(59, 59), 0);
        CHECK.due("sum", x.count(5), 500 + 59 * 2500 + 500 * (59 * 60 / 2));
    }

    /** Promise 10: "what 0 MINUTES, 1 LATE, 2 PLAN, 3 SOURCE, 4 TRAIN; NONE for others". */
    private static void ofWhat() {
        DelayDesk x = new DelayDesk();
        x.event(13, 700);
        x.source(0, 20);
        int[] due = {720, 20, 700, 20, 13};
        for (int what = 0; what <= 4; what++) {
            CHECK.due("of, what " + what, x.of(0, what), due[what]);
        }
        for (int what : new int[] {LEAST_INT, -2, -1, 5, 6, GREATEST_INT}) {
            CHECK.due("of, what " + what, x.of(0, what), NONE);
        }
    }

    private static void ofWhichEvent() {
        DelayDesk x = events(59, 30);
        for (int what = 0; what <= 4; what++) {
            for (int e : new int[] {LEAST_INT, -1, 59, 60, GREATEST_INT}) {
                CHECK.due("of " + e + " " + what, x.of(e, what), NONE);
            }
        }
        x.event(15, 31);
        int[] due = {31, 0, 31, 0, 15};
        for (int what = 0; what <= 4; what++) {
            CHECK.due("of 59 " + what, x.of(59, what), due[what]);
            CHECK.due("of 60 " + what, x.of(60, what), NONE);
        }
    }

    /** Promise 10: "(0, 1: without a SPREAD". */
    private static void ofWithoutSpread() {
        DelayDesk x = withoutSpread();
        int[] due = {NONE, NONE, 100, 9, 2};
        for (int what = 0; what <= 4; what++) {
            CHECK.due("without a spread: of 2 " + what, x.of(2, what), due[what]);
        }
        x.turn(1);
        CHECK.due("with one", x.of(2, 0), 109);
    }

    /** Promise 10: "or it is not there)". */
    private static void ofWhatIsNotThere() {
        DelayDesk x = events(2, 100);
        x.source(1, 9);
        x.cancel(1, true);
        int[] due = {NONE, NONE, 100, 9, 1};
        for (int what = 0; what <= 4; what++) {
            CHECK.due("not there: of 1 " + what, x.of(1, what), due[what]);
        }
        CHECK.due("there: of 0", x.of(0, 0), 100);
        x.cancel(1, false);
        CHECK.due("there again", x.of(1, 1), 9);
    }

    /** Promise 11: "what 0 KIND, 1, 2 its beginning and end, 3 LEAST, 4 whether it is KEPT, 5 .. SLACK: 6". */
    private static void lookWhat() {
        DelayDesk x = events(3, 100);
        x.source(2, 4);
        x.activity(2, 2, 1, 3);
        int[] due = {2, 2, 1, 3, 1, 1, -3};
        for (int what = 0; what <= 6; what++) {
            CHECK.due("look, what " + what, x.look(0, what), due[what]);
        }
        for (int what : new int[] {LEAST_INT, -2, -1, 7, 8, GREATEST_INT}) {
            CHECK.due("look, what " + what, x.look(0, what), NONE);
        }
    }

    private static void lookAtWhichActivity() {
        DelayDesk x = events(2, 100);
        for (int a = 0; a < 99; a++) {
            x.activity(3, 0, 1, 0);
        }
        for (int what = 0; what <= 6; what++) {
            for (int a : new int[] {LEAST_INT, -1, 99, 100, GREATEST_INT}) {
                CHECK.due("look " + a + " " + what, x.look(a, what), NONE);
            }
        }
        x.activity(4, 1, 0, 8);
        int[] due = {4, 1, 0, 8, 1, NONE, -8};
        for (int what = 0; what <= 6; what++) {
            CHECK.due("look 99 " + what, x.look(99, what), what == 5 ? 0 : due[what]);
            CHECK.due("look 100 " + what, x.look(100, what), NONE);
        }
    }

    /** Part 1: "SLACK .. the PLAN of its end less that of its beginning, less LEAST (it may be below 0)". */
    private static void slackFromEndToEnd() {
        DelayDesk x = new DelayDesk();
        x.event(0, 0);
        x.event(1, 2000);
        x.activity(3, 0, 1, 0);
        x.activity(3, 0, 1, 500);
        x.activity(3, 1, 0, 0);
        x.activity(3, 1, 0, 500);
        int[] due = {2000, 1500, -2000, -2500};
        for (int a = 0; a < 4; a++) {
            CHECK.due("slack " + a, x.look(a, 6), due[a]);
        }
        CHECK.due("two below 0", x.count(7), 2);
    }

    /** Promise 11: "NONE for others (6 can be that)". */
    private static void slackOfMinusOne() {
        DelayDesk x = new DelayDesk();
        x.event(0, 50);
        x.event(1, 60);
        for (int least = 9; least <= 12; least++) {
            x.activity(4, 0, 1, least);
            CHECK.due("slack at " + least, x.look(least - 9, 6), 10 - least);
        }
        CHECK.due("two below 0", x.count(7), 2);
    }

    /** Part 1: "BINDS if its end's MINUTES are just those of its beginning and LEAST". */
    private static void bindsJustSo() {
        DelayDesk x = events(3, 100);
        x.activity(3, 0, 2, 9);
        x.activity(3, 0, 2, 10);
        x.activity(3, 1, 2, 10);
        CHECK.due("a minute short", x.look(0, 5), 0);
        CHECK.due("just so", x.look(1, 5), 1);
        CHECK.due("just so too", x.look(2, 5), 1);
        x.source(1, 1);
        CHECK.due("a minute short now", x.look(1, 5), 0);
        CHECK.due("just so still", x.look(2, 5), 1);
    }

    /** Part 1: "and the end is LATE". */
    private static void bindsOnlyTheLate() {
        DelayDesk x = new DelayDesk();
        x.event(0, 100);
        x.event(1, 110);
        x.activity(3, 0, 1, 10);
        CHECK.due("just so, not late", x.look(0, 5), 0);
        CHECK.due("no cause", x.cause(1), NONE);
        x.source(0, 1);
        CHECK.due("a minute late", x.look(0, 5), 1);
        CHECK.due("the cause", x.cause(1), 0);
    }

    /** Part 1: "and more than its SOURCE". */
    private static void bindsMoreThanTheSource() {
        DelayDesk x = new DelayDesk();
        x.event(0, 100);
        x.event(1, 110);
        x.activity(3, 0, 1, 10);
        x.source(0, 6);
        for (int minutes = 5; minutes <= 7; minutes++) {
            x.source(1, minutes);
            CHECK.due("binds against a source of " + minutes, x.look(0, 5), minutes < 6 ? 1 : 0);
            CHECK.due("cause against a source of " + minutes, x.cause(1), minutes < 6 ? 0 : NONE);
            CHECK.due("way against a source of " + minutes, x.way(1, 1), minutes < 6 ? 0 : NONE);
        }
    }

    /** Promise 11: "(0 without a SPREAD". */
    private static void bindsWithoutSpread() {
        DelayDesk x = withoutSpread();
        for (int a = 0; a < 3; a++) {
            CHECK.due("without a spread: binds " + a, x.look(a, 5), 0);
        }
        CHECK.due("no such one", x.look(3, 5), NONE);
        x.turn(1);
        CHECK.due("with one", x.look(2, 5), 1);
    }

    /** Promise 11: "or if it is not there)". */
    private static void bindsOnlyWhatIsThere() {
        DelayDesk x = events(2, 100);
        x.activity(4, 0, 1, 5);
        CHECK.due("there", x.look(0, 5), 1);
        for (int train = 0; train < 2; train++) {
            x.cancel(train, true);
            CHECK.due("not there, train " + train, x.look(0, 5), 0);
            CHECK.due("kept all the same", x.look(0, 4), 1);
            x.cancel(train, false);
        }
        CHECK.due("there again", x.look(0, 5), 1);
    }

    /** Promise 12: "NONE if .. not LATE, not there", or no such event. */
    private static void causeOfNone() {
        DelayDesk x = events(3, 100);
        x.activity(3, 0, 1, 0);
        x.source(0, 5);
        CHECK.due("late", x.cause(1), 0);
        CHECK.due("not late", x.cause(2), NONE);
        for (int e : new int[] {LEAST_INT, -2, -1, 3, 59, 60, GREATEST_INT}) {
            CHECK.due("no such event " + e, x.cause(e), NONE);
        }
        x.cancel(1, true);
        CHECK.due("not there", x.cause(1), NONE);
        x.cancel(1, false);
        x.cancel(0, true);
        CHECK.due("its beginning is not there", x.cause(1), NONE);
    }

    /** Promise 12: "NONE if it is a FIRST one". */
    private static void causeOfFirstOnes() {
        DelayDesk x = events(2, 100);
        x.activity(3, 0, 1, 0);
        x.source(0, 5);
        x.source(1, 6);
        CHECK.due("nothing to it", x.cause(0), NONE);
        CHECK.due("something to it, but it does not bind", x.cause(1), NONE);
        CHECK.due("on its way itself", x.way(1, 0), 1);
    }

    /** Part 1: "(there may be none: then it is a FIRST one: PLANS that do not fit)". */
    private static void causeOfPlansThatDoNotFit() {
        DelayDesk x = events(2, 100);
        x.activity(4, 0, 1, 1);
        CHECK.due("late", x.of(1, 1), 1);
        CHECK.due("bound", x.look(0, 5), 1);
        CHECK.due("by one that is not late", x.cause(1), NONE);
        CHECK.due("its way begins", x.way(1, 0), 1);
        CHECK.due("and ends", x.way(1, 1), NONE);
        x.source(0, 1);
        CHECK.due("by one that is late", x.cause(1), 0);
    }

    /** Part 1: "the ACTIVITY of the lowest number that BINDS it". */
    private static void causeOfLowestNumber() {
        DelayDesk x = events(4, 100);
        x.activity(3, 2, 3, 0);
        x.activity(3, 1, 3, 0);
        x.activity(3, 0, 3, 0);
        for (int e = 0; e < 3; e++) {
            x.source(e, 5);
        }
        CHECK.due("of three", x.cause(3), 0);
        CHECK.due("its beginning", x.way(3, 1), 2);
        x.source(2, 4);
        CHECK.due("of two", x.cause(3), 1);
        CHECK.due("its beginning", x.way(3, 1), 1);
        x.source(1, 4);
        CHECK.due("of one", x.cause(3), 2);
        CHECK.due("its beginning", x.way(3, 1), 0);
    }

    /** Part 1: "and whose beginning is LATE": a lower one that binds is passed over if its beginning is not. */
    private static void causeWithLateBeginning() {
        DelayDesk x = events(3, 100);
        x.activity(3, 0, 2, 5);
        x.activity(3, 1, 2, 4);
        CHECK.due("neither is late", x.cause(2), NONE);
        x.source(1, 1);
        CHECK.due("0 binds", x.look(0, 5), 1);
        CHECK.due("1 binds", x.look(1, 5), 1);
        CHECK.due("1 is the cause", x.cause(2), 1);
    }

    /** Promise 12: "or there is no SPREAD". */
    private static void causeWithoutSpread() {
        DelayDesk x = withoutSpread();
        for (int e = 0; e < 4; e++) {
            CHECK.due("without a spread: cause " + e, x.cause(e), NONE);
            CHECK.due("without a spread: way " + e, x.way(e, 0), NONE);
        }
        x.turn(1);
        CHECK.due("with one: cause", x.cause(3), 2);
        CHECK.due("with one: way", x.way(3, 1), 2);
    }

    /** Promise 13: "(0: itself)". */
    private static void wayOfItself() {
        DelayDesk x = events(2, 100);
        x.source(1, 1);
        CHECK.due("not late", x.way(0, 0), NONE);
        CHECK.due("late", x.way(1, 0), 1);
        CHECK.due("no farther", x.way(1, 1), NONE);
    }

    private static void wayOfSixty() {
        DelayDesk x = chain(60, 0);
        x.source(0, 1);
        for (int i = 0; i < 60; i++) {
            CHECK.due("way of sixty, " + i, x.way(59, i), 59 - i);
        }
        CHECK.due("its end", x.way(59, 60), NONE);
        CHECK.due("its end, far off", x.way(59, GREATEST_INT), NONE);
        CHECK.due("of 58", x.way(58, 58), 0);
        CHECK.due("of 58, its end", x.way(58, 59), NONE);
    }

    /** Promise 13: "NONE if there is none". */
    private static void wayBeforeAndBeyond() {
        DelayDesk x = chain(3, 0);
        x.source(0, 1);
        for (int i : new int[] {LEAST_INT, -2, -1, 3, 4, 59, 60, GREATEST_INT}) {
            CHECK.due("way, i " + i, x.way(2, i), NONE);
        }
        CHECK.due("the last of it", x.way(2, 2), 0);
    }

    /** Part 1: "it ends where it would come to an EVENT again". */
    private static void wayThatComesAgain() {
        DelayDesk x = events(4, 100);
        x.activity(3, 3, 1, 0);
        x.activity(3, 1, 2, 0);
        x.activity(3, 2, 3, 0);
        x.activity(3, 0, 1, 0);
        x.source(0, 6);
        CHECK.due("round", x.cause(1), 0);
        int[] due = {2, 1, 3, NONE, NONE};
        for (int i = 0; i < due.length; i++) {
            CHECK.due("round from 2, " + i, x.way(2, i), due[i]);
        }
        CHECK.due("round from 1", x.way(1, 2), 2);
        CHECK.due("0, which made all late, is not met", x.way(1, 3), NONE);
    }

    private static void wayOfNone() {
        DelayDesk x = chain(2, 0);
        x.source(0, 6);
        for (int e : new int[] {LEAST_INT, -2, -1, 2, 59, 60, GREATEST_INT}) {
            CHECK.due("way of no such event " + e, x.way(e, 0), NONE);
        }
        x.cancel(1, true);
        CHECK.due("not there", x.way(1, 0), NONE);
        CHECK.due("there", x.way(0, 0), 0);
    }

    /** Promise 14: "if there is no SPREAD .. NONE if there is none". */
    private static void ringWithSpread() {
        DelayDesk x = chain(3, 0);
        x.activity(3, 2, 0, 0);
        for (int i : new int[] {LEAST_INT, -1, 0, 1, 2, 3, GREATEST_INT}) {
            CHECK.due("with a spread: ring " + i, x.ring(i), NONE);
        }
    }

    private static void ringOfTwo() {
        DelayDesk x = new DelayDesk();
        x.event(0, 10);
        x.event(0, 10);
        x.activity(0, 0, 1, 0);
        x.activity(1, 1, 0, 1);
        CHECK.due("first", x.ring(0), 0);
        CHECK.due("second", x.ring(1), 1);
        CHECK.due("end", x.ring(2), NONE);
    }

    /** Promise 14: "those of fewest ACTIVITIES", though others have lower numbers or more minutes. */
    private static void ringOfFewest() {
        DelayDesk x = chain(3, 500);
        x.activity(3, 2, 0, 500);
        CHECK.due("three", x.ring(2), 2);
        x.activity(3, 2, 1, 0);
        CHECK.due("two", x.ring(0), 1);
        CHECK.due("two", x.ring(1), 3);
        CHECK.due("two, end", x.ring(2), NONE);
        x.turn(3);
        CHECK.due("three again", x.ring(0), 0);
        CHECK.due("three again", x.ring(1), 1);
        CHECK.due("three again", x.ring(2), 2);
        CHECK.due("three again, end", x.ring(3), NONE);
    }

    /** Promise 14: "of these the least, number by number". */
    private static void ringOfLeastNumbers() {
        DelayDesk x = events(4, 100);
        x.activity(3, 1, 0, 1);
        x.activity(3, 3, 2, 1);
        x.activity(3, 2, 3, 0);
        x.activity(3, 0, 1, 0);
        x.activity(3, 0, 1, 0);
        CHECK.due("the lowest first", x.ring(0), 0);
        CHECK.due("then the lower of two", x.ring(1), 3);
        x.turn(0);
        CHECK.due("both from 1 to 0 are none now", x.ring(0), 1);
        CHECK.due("the other pair", x.ring(1), 2);
    }

    /** The ring of 4, 1, 3 is told from 1 on, and the way it goes. */
    private static void ringFromItsLowestOn() {
        DelayDesk x = events(5, 100);
        x.activity(3, 3, 4, 1);
        x.activity(3, 1, 2, 0);
        x.activity(3, 4, 3, 0);
        x.activity(3, 2, 0, 0);
        x.activity(3, 0, 1, 1);
        CHECK.due("a pair first", x.ring(0), 0);
        CHECK.due("a pair first", x.ring(1), 2);
        x.cancel(3, true);
        int[] due = {1, 3, 4, NONE};
        for (int i = 0; i < due.length; i++) {
            CHECK.due("then three, " + i, x.ring(i), due[i]);
        }
    }

    /** Promise 14: "whose LEAST are above 0 together": shorter ones and lower ones of no minutes are passed over. */
    private static void ringAboveNoMinutes() {
        DelayDesk x = chain(3, 0);
        x.activity(3, 2, 0, 0);
        x.activity(3, 2, 0, 1);
        x.activity(3, 1, 0, 0);
        int[] due = {0, 1, 3, NONE};
        for (int i = 0; i < due.length; i++) {
            CHECK.due("above no minutes, " + i, x.ring(i), due[i]);
        }
    }

    private static void ringWithItsMinuteAnywhere() {
        for (int at = 0; at < 2; at++) {
            DelayDesk x = events(3, 100);
            x.activity(3, 0, 1, at == 0 ? 1 : 0);
            x.activity(3, 1, 2, at == 1 ? 1 : 0);
            x.activity(3, 2, 0, 0);
            x.activity(3, 2, 0, 1);
            for (int i = 0; i < 3; i++) {
                CHECK.due("the minute in " + at + ", " + i, x.ring(i), i);
            }
            CHECK.due("its end", x.ring(3), NONE);
        }
    }

    private static void ringBesideOneOfNoMinutes() {
        DelayDesk x = events(3, 100);
        x.activity(3, 0, 1, 0);
        x.activity(3, 1, 0, 0);
        x.activity(3, 0, 2, 0);
        x.activity(3, 2, 0, 1);
        CHECK.due("beside one of no minutes", x.ring(0), 2);
        CHECK.due("beside one of no minutes", x.ring(1), 3);
        CHECK.due("its end", x.ring(2), NONE);
    }

    private static void ringBeforeAndBeyond() {
        DelayDesk x = withoutSpread();
        for (int i : new int[] {LEAST_INT, -2, -1, 2, 3, 59, 60, 99, 100, GREATEST_INT}) {
            CHECK.due("ring, i " + i, x.ring(i), NONE);
        }
        CHECK.due("its first", x.ring(0), 0);
        CHECK.due("its last", x.ring(1), 1);
    }

    private static void ringOfSixty() {
        DelayDesk x = chain(60, 0);
        x.activity(3, 59, 0, 1);
        for (int i = 0; i < 60; i++) {
            CHECK.due("ring of sixty, " + i, x.ring(i), i);
        }
        CHECK.due("its end", x.ring(60), NONE);
    }

    /** Promise 19: "NONE without one" (a LATE EVENT). */
    private static void recoverOfNone() {
        DelayDesk x = events(2, 2000);
        CHECK.due("none late", x.recover(), NONE);
        x.source(1, 1);
        CHECK.due("one late", x.recover(), 2001);
        x.cancel(1, true);
        CHECK.due("it is not there", x.recover(), NONE);
        x.cancel(1, false);
        x.source(1, 0);
        CHECK.due("none late again", x.recover(), NONE);
    }

    /** Promise 19: "The greatest MINUTES of a LATE EVENT": not of one that is later, but as planned. */
    private static void recoverOfTheGreatest() {
        DelayDesk x = new DelayDesk();
        x.event(0, 0);
        x.event(1, 2000);
        x.event(2, 50);
        x.source(0, 400);
        x.source(2, 349);
        CHECK.due("the greater of two", x.recover(), 400);
        x.source(2, 350);
        CHECK.due("both alike", x.recover(), 400);
        x.source(2, 351);
        CHECK.due("the other", x.recover(), 401);
    }

    /** Promise 19: "or without a SPREAD". */
    private static void recoverWithoutSpread() {
        DelayDesk x = withoutSpread();
        CHECK.due("without a spread", x.recover(), NONE);
        x.turn(1);
        CHECK.due("with one", x.recover(), 116);
    }

    /** Promise 20: "NONE for others". */
    private static void countWhat() {
        DelayDesk x = new DelayDesk();
        for (int what : new int[] {LEAST_INT, -2, -1, 8, 9, GREATEST_INT}) {
            CHECK.due("count " + what, x.count(what), NONE);
        }
    }

    private static void countFull() {
        DelayDesk x = events(60, 0);
        for (int a = 0; a < 100; a++) {
            x.activity(2, a % 50, a % 50 + 1, 1);
        }
        for (int g = 0; g < 30; g++) {
            x.group(1, g, NONE, NONE, g, 0);
        }
        for (int train = 0; train < 16; train++) {
            x.cancel(train, true);
        }
        int[] due = {60, 100, 30, 100, 0, 0, 16, 100};
        for (int what = 0; what <= 7; what++) {
            CHECK.due("full: count " + what, x.count(what), due[what]);
        }
        for (int train = 0; train < 16; train++) {
            x.cancel(train, false);
        }
        int[] dueThere = {60, 100, 30, 100, 50, 50 * 51 / 2, 0, 100};
        for (int what = 0; what <= 7; what++) {
            CHECK.due("full and there: count " + what, x.count(what), dueThere[what]);
        }
    }

    /** Promise 20: "3 CHANGES that are KEPT": no others, though these are always KEPT. */
    private static void countKeptChanges() {
        DelayDesk x = events(2, 100);
        x.activity(3, 0, 1, 0);
        x.activity(4, 0, 1, 0);
        CHECK.due("none of them is a change", x.count(3), 0);
        x.activity(2, 0, 1, 0);
        x.activity(2, 0, 1, 0);
        CHECK.due("two", x.count(3), 2);
        x.keep(2, false);
        CHECK.due("one", x.count(3), 1);
        x.keep(3, false);
        CHECK.due("none", x.count(3), 0);
    }

    /** Promise 20: "4 LATE EVENTS .. 5 the sum of how LATE they are". */
    private static void countLate() {
        DelayDesk x = events(3, 2000);
        CHECK.due("none late", x.count(4), 0);
        CHECK.due("no minutes", x.count(5), 0);
        x.source(0, 1);
        CHECK.due("one late", x.count(4), 1);
        CHECK.due("one minute", x.count(5), 1);
        x.source(1, 500);
        x.source(2, 500);
        CHECK.due("three late", x.count(4), 3);
        CHECK.due("their minutes", x.count(5), 1001);
        x.cancel(1, true);
        CHECK.due("two are there", x.count(4), 2);
        CHECK.due("their minutes", x.count(5), 501);
    }

    /** Promise 20: "(0 without a SPREAD)". */
    private static void countWithoutSpread() {
        DelayDesk x = withoutSpread();
        int[] due = {4, 3, 0, 1, 0, 0, 0, 2};
        for (int what = 0; what <= 7; what++) {
            CHECK.due("without a spread: count " + what, x.count(what), due[what]);
        }
        x.turn(1);
        CHECK.due("with one", x.count(4), 3);
        CHECK.due("with one", x.count(5), 1 + 9 + 16);
    }

    /** Promise 20: "7 ACTIVITIES whose SLACK is below 0". */
    private static void countTightOnes() {
        DelayDesk x = new DelayDesk();
        x.event(0, 10);
        x.event(1, 15);
        x.activity(2, 0, 1, 4);
        x.activity(2, 0, 1, 5);
        CHECK.due("1 and 0 are not below", x.count(7), 0);
        x.activity(2, 0, 1, 6);
        CHECK.due("-1 is", x.count(7), 1);
        x.keep(2, false);
        CHECK.due("broken", x.count(7), 1);
        x.cancel(0, true);
        CHECK.due("not there", x.count(7), 1);
    }

    /** 60 events, each a minute after the one before it, and 100 activities; also with short cuts and the way back. */
    private static void askedOfAFullDesk() {
        DelayDesk x = events(60, 0);
        for (int e = 0; e < 59; e++) {
            x.activity(3, e, e + 1, 1);
        }
        for (int a = 59; a < 99; a++) {
            x.activity(3, 0, a % 15 + 1, 0);
        }
        CHECK.due("the hundredth", x.activity(4, 59, 0, 0), 99);
        CHECK.due("full: no spread", x.spread(), 0);
        int[] due = {15, 58, 99, 59, NONE};
        int[] at = {0, 43, 44, 45, 46};
        for (int i = 0; i < at.length; i++) {
            CHECK.due("full: ring " + at[i], x.ring(at[i]), due[i]);
        }
        x.cancel(11, true);
        CHECK.due("full: no ring without train 11", x.ring(0), NONE);
        CHECK.due("full: late from 44 on", x.of(58, 1), 58 - 44);
        DelayDesk y = events(60, 0);
        for (int a = 0; a < 100; a++) {
            y.activity(3, a % 59, a % 59 + 1, 1);
        }
        y.source(0, 3);
        for (int e = 0; e < 60; e++) {
            CHECK.due("full: late " + e, y.of(e, 1), e + 3);
            CHECK.due("full: cause " + e, y.cause(e), e - 1);
            CHECK.due("full: way " + e, y.way(e, e), 0);
        }
        CHECK.due("full: recover", y.recover(), 62);
        CHECK.due("full: late events", y.count(4), 60);
        CHECK.due("full: their minutes", y.count(5), 60 * 3 + 59 * 60 / 2);
        CHECK.due("full: tight ones", y.count(7), 100);
        CHECK.due("full: the last binds", y.look(99, 5), 1);
    }

    /** "An object is used for at most 512 calls": the 512th is answered like the first. */
    private static void lastCallOfAll() {
        DelayDesk x = events(2, 100);
        x.activity(2, 0, 1, 5);
        for (int call = 4; call <= 511; call++) {
            CHECK.due("call " + call, x.keep(0, call % 2 == 1), true);
        }
        CHECK.due("call 512", x.of(1, 1), 5);
    }
}
