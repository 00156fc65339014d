/** The sentences of 'Where one is': statuses, days that count, rules, stays outside, visas by which one came. */
public final class TermsWhereTest {
    private static final int NATIONAL = PassageCourt.NATIONAL, RESIDENT = PassageCourt.RESIDENT;
    private static final int VISITOR = PassageCourt.VISITOR, OVERSTAYED = PassageCourt.OVERSTAYED;

    public static void main(String[] args) {
        slipsInWithoutBeingAsked();
        fromEnteringToLeaving();
        theLastLookOfTheDay();
        callsThatDoNotLook();
        callsThatDoNotLookAtOneWhoIsHome();
        requestsThenPersonsThenQuotas();
        nationalThenResidentThenVisitor();
        permitValidOnThatDay();
        whichDaysCount();
        thatDayWithThem();
        windowThatEndsWithIt();
        smallestRules();
        greatestRule();
        ruleInForceFromItsDay();
        greatestDayThatIsNotLater();
        ofSeveralTheLastThatWasTold();
        ruleOfTheDayOfTheWindow();
        first60DaysOutside();
        stayOutsideWithItsDaysAsANational();
        Check.end();
    }

    /** Lands 0 and 1 of the region, 2 and 3 outside; persons 0 of nation 2, which all others waive, 1 of none, 2 of nation 0. */
    private static PassageCourt three() {
        PassageCourt x = new PassageCourt();
        x.land(true, false, false, 0);
        x.land(true, false, false, 0);
        x.land(false, false, false, 0);
        x.land(false, false, false, 0);
        x.person(2, 30);
        x.person(PassageCourt.NONE, 30);
        x.person(0, 30);
        x.waive(0, 2, true);
        x.waive(1, 2, true);
        x.waive(3, 2, true);
        return x;
    }

    private static void both(PassageCourt x, int person, String what, int due) {
        Check.due(what, x.about(person, 2), due);
        Check.due(what + ", anew", x.daysAnew(person), due);
    }

    // "or it slips in, without being asked"
    private static void slipsInWithoutBeingAsked() {
        for (int land = 0; land < 4; land++) {
            PassageCourt x = three();
            x.rule(0, 0, 1);
            Check.due("a visa", x.visa(1, land, 0, 9, 1, 9), 0);
            for (int maker = 0; maker < 4; maker++) {
                x.ban(maker, 1, 9);
            }
            Check.due("banned by all", x.enter(1, land), 1);
            Check.due("slips in all the same", x.slip(1, land), OVERSTAYED);
            Check.due("is there", x.about(1, 0), land);
            Check.due("has taken no visa", x.about(1, 3), PassageCourt.NONE);
            Check.due("no entry and no day of it", x.ofVisa(0, 0) * 10 + x.ofVisa(0, 1), 19);
            Check.due("it may not enter still", x.reason(1, land), 1);
        }
    }

    // "On each day on which a person is in a land, also that of entering and that of leaving, it has a status there"
    private static void fromEnteringToLeaving() {
        PassageCourt x = three();
        x.pass(3);
        x.enter(0, 1);
        x.pass(2);
        x.leave(0);
        Check.due("ABROAD now", x.status(0), PassageCourt.ABROAD);
        x.pass(1);
        Check.due("the day ahead of entering", x.was(0, 2), 0);
        Check.due("that of entering", x.was(0, 3), 13);
        Check.due("one between", x.was(0, 4), 13);
        Check.due("that of leaving", x.was(0, 5), 13);
        Check.due("the day behind leaving", x.was(0, 6), 0);
        both(x, 0, "three days", 3);
        x.enter(0, 0);
        x.leave(0);
        Check.due("in and out on a day", x.was(0, 6), 3);
        both(x, 0, "a day too", 4);
    }

    // "that of the last time it is looked at on that day: when it enters, moves or slips in, and when a day begins"
    private static void theLastLookOfTheDay() {
        PassageCourt x = three();
        x.enter(0, 0);
        x.waive(1, 2, false);
        Check.due("looked at when it moves", x.move(0, 1), OVERSTAYED);
        x.waive(1, 2, true);
        Check.due("not looked at again", x.status(0), OVERSTAYED);
        x.move(0, 0);
        Check.due("the last one", x.was(0, 0), 3);
        x.leave(0);
        Check.due("of leaving it has the status that it had", x.was(0, 0), 3);
        x.slip(0, 1);
        Check.due("looked at when it slips in", x.was(0, 0), 14);
        x.leave(0);
        x.lift(1, 0);
        x.enter(0, 0);
        Check.due("looked at when it enters", x.was(0, 0), 3);
        x.waive(0, 2, false);
        x.pass(1);
        Check.due("looked at when a day begins", x.was(0, 1), 4);
        Check.due("that of the day ahead stays", x.was(0, 0), 3);
    }

    private static void callsThatDoNotLook() {
        PassageCourt x = three();
        x.enter(0, 0);
        x.waive(0, 2, false);
        Check.due("waive", x.status(0), VISITOR);
        x.waive(0, 2, true);
        x.rule(0, 0, 1);
        Check.due("rule", x.status(0), VISITOR);
        both(x, 0, "the record of today stands", 1);
        x.ban(0, 0, 9);
        Check.due("ban", x.status(0), VISITOR);
        x.nation(0, 0, true);
        Check.due("nation", x.status(0), VISITOR);
        x.nation(0, 0, false);
        x.pass(1);
        Check.due("by the rule, then", x.status(0), OVERSTAYED);
        x.rule(1, 90, 180);
        x.lift(0, 0);
        Check.due("rule and lift", x.status(0), OVERSTAYED);
        Check.due("OVERSTAYED today", x.about(0, 4), 1);
        x.pass(1);
        Check.due("then", x.status(0), VISITOR);
        x.slip(1, 0);
        x.visa(1, 0, 2, 9, 9, 9);
        Check.due("visa", x.status(1), OVERSTAYED);
        x.reason(1, 0);
        Check.due("reason", x.status(1), OVERSTAYED);
    }

    private static void callsThatDoNotLookAtOneWhoIsHome() {
        PassageCourt x = Scene.threeYears();
        Check.due("a resident", x.status(0), RESIDENT);
        x.oath(0, 0);
        Check.due("the oath does not look", x.status(0), RESIDENT);
        Check.due("what one is today", x.was(0, 1440), 2);
        x.pass(1);
        Check.due("a day later", x.status(0), NATIONAL);
        Check.due("the day ahead stays", x.was(0, 1440), 2);
        x.nation(0, 0, false);
        Check.due("not any more, but not looked at", x.status(0), NATIONAL);
        x.move(0, 1);
        Check.due("moved and back on a day", x.move(0, 0), RESIDENT);
    }

    // "and when a day begins (then in this order: requests whose time is over, persons, quotas)"
    private static void requestsThenPersonsThenQuotas() {
        PassageCourt x = three();
        x.quota(0, 0, 9);
        x.ask(0, 0, 0);
        x.ask(1, 0, 0);
        x.enter(0, 0);
        Check.passTo(x, 0, 299);
        x.refuse(1);
        x.appeal(1);
        Check.passTo(x, 299, 359);
        x.judge(1, true);
        Check.due("90 days are over", x.status(0), OVERSTAYED);
        x.pass(1);
        Check.due("granted behind the look at persons", x.status(0), OVERSTAYED);
        Check.due("though there is a permit", x.permit(0, 0), 719);
        Check.due("judged on the last day: granted too", x.ofRequest(1, 0), PassageCourt.GRANTED);
        Check.due("who slips in is looked at behind the quotas", x.slip(1, 0), RESIDENT);
        x.pass(1);
        Check.due("the day behind", x.status(0), RESIDENT);
    }

    // "NATIONAL, if ..; RESIDENT, if ..; VISITOR, if it did not slip in ..; otherwise OVERSTAYED"
    private static void nationalThenResidentThenVisitor() {
        PassageCourt x = Scene.granted();
        x.waive(0, 1, true);
        Check.due("slipped in and a permit of today: not looked at yet", x.status(0), OVERSTAYED);
        x.nation(0, 0, true);
        x.pass(1);
        Check.due("of that nation, with a permit", x.status(0), NATIONAL);
        x.nation(0, 0, false);
        x.nation(0, 1, true);
        x.pass(1);
        Check.due("a permit, slipped in", x.status(0), RESIDENT);
        x.leave(0);
        x.lift(0, 0);
        Check.due("a permit, free of visas", x.enter(0, 0), 0);
        Check.due("RESIDENT ahead of VISITOR", x.status(0), RESIDENT);
        Check.due("a visitor where there is no permit", x.reason(0, 1), 0);

        PassageCourt z = three();
        z.slip(0, 0);
        Check.due("free of visas, but slipped in", z.status(0), OVERSTAYED);
        z.leave(0);
        z.lift(0, 0);
        z.enter(0, 0);
        Check.due("free of visas, and asked", z.status(0), VISITOR);
        z.waive(0, 2, false);
        z.pass(1);
        Check.due("neither free nor with a visa", z.status(0), OVERSTAYED);
        z.waive(0, 2, true);
        z.pass(1);
        Check.due("free again", z.status(0), VISITOR);
        z.rule(3, 3, 180);
        z.pass(1);
        Check.due("no days left", z.status(0), OVERSTAYED);
    }

    // "RESIDENT, if it has a permit of that land that is valid on that day"
    private static void permitValidOnThatDay() {
        PassageCourt x = Scene.granted();
        x.pass(1);
        Check.due("its second day", x.status(0), RESIDENT);
        Check.due("not of another land", x.move(0, 1), OVERSTAYED);
        x.move(0, 0);
        Check.passTo(x, 361, 719);
        Check.due("its last day", x.status(0), RESIDENT);
        x.pass(1);
        Check.due("the day behind it", x.status(0), OVERSTAYED);
        Check.due("what it was on the last day", x.was(0, 719), 2);
        Check.due("what it is today", x.was(0, 720), 4);
    }

    // "A day counts, if the land is one of the region, and the status is VISITOR or OVERSTAYED."
    private static void whichDaysCount() {
        PassageCourt x = three();
        x.enter(2, 0);
        both(x, 2, "NATIONAL", 0);
        x.move(2, 1);
        both(x, 2, "OVERSTAYED", 1);
        x.waive(1, 0, true);
        x.move(2, 0);
        x.move(2, 1);
        Check.due("now a visitor", x.status(2), VISITOR);
        both(x, 2, "VISITOR", 1);
        x.enter(0, 3);
        both(x, 0, "VISITOR outside", 0);
        x.slip(1, 3);
        both(x, 1, "OVERSTAYED outside", 0);
        x.pass(1);
        both(x, 2, "each day", 2);
        both(x, 0, "none outside", 0);
        both(x, 1, "none outside", 0);

        PassageCourt z = Scene.granted();
        both(z, 0, "slipped in on the day 180, the last 180", 180);
        z.pass(1);
        both(z, 0, "RESIDENT does not count", 179);
        z.pass(1);
        both(z, 0, "nor on the next day", 178);
    }

    // "if, that day with them, at most so many days count in the window": the first rule is 90 in 180
    private static void thatDayWithThem() {
        PassageCourt x = three();
        x.enter(0, 0);
        x.pass(88);
        Check.due("the 89th", x.status(0), VISITOR);
        x.pass(1);
        Check.due("the 90th", x.status(0), VISITOR);
        both(x, 0, "90", 90);
        Check.due("asked on the 90th, that day with them", x.reason(0, 0), 0);
        x.pass(1);
        Check.due("the 91st", x.status(0), OVERSTAYED);
        both(x, 0, "91", 91);
        Check.due("asked on the 91st", x.reason(0, 0), 3);
        Check.due("one day", x.about(0, 4), 1);

        PassageCourt z = three();
        z.enter(0, 0);
        z.pass(89);
        z.leave(0);
        Check.due("again on the day of leaving", z.enter(0, 1), 0);
        z.leave(0);
        z.pass(1);
        Check.due("a day behind", z.enter(0, 1), 3);
        both(z, 0, "a day abroad", 90);
    }

    // "in the window that ends with it"
    private static void windowThatEndsWithIt() {
        PassageCourt x = three();
        x.pass(7);
        x.enter(0, 0);
        x.pass(89);
        x.leave(0);
        Check.passTo(x, 96, 186);
        both(x, 0, "the first day is the 180th", 90);
        Check.due("it is in the window still", x.enter(0, 0), 3);
        x.pass(1);
        both(x, 0, "the first day is the 181st", 89);
        Check.due("it is out of it", x.enter(0, 0), 0);
        Check.due("a visitor", x.status(0), VISITOR);
        both(x, 0, "90 with today", 90);
        x.pass(1);
        both(x, 0, "one out, one in", 90);
        Check.due("a visitor still", x.status(0), VISITOR);
    }

    // most 0, window 1: the least of each
    private static void smallestRules() {
        PassageCourt x = three();
        x.rule(0, 0, 360);
        Check.due("no day at all", x.reason(0, 0), 3);
        x.rule(0, 0, 1);
        Check.due("nor in a window of a day", x.reason(0, 0), 3);
        x.rule(0, 1, 1);
        Check.due("one in one", x.enter(0, 0), 0);
        x.pass(5);
        Check.due("is always free", x.status(0), VISITOR);
        both(x, 0, "today alone", 1);
        x.rule(6, 180, 1);
        x.pass(1);
        Check.due("more than the window", x.status(0), VISITOR);
        x.rule(7, 1, 2);
        x.pass(1);
        Check.due("one in two, and yesterday", x.status(0), OVERSTAYED);
        both(x, 0, "yesterday and today", 2);
        x.leave(0);
        x.lift(0, 0);
        Check.due("today was the second", x.reason(0, 0), 3);
        x.pass(1);
        Check.due("yesterday was one", x.reason(0, 0), 3);
        x.pass(1);
        Check.due("a day abroad", x.reason(0, 0), 0);
        both(x, 0, "none", 0);
    }

    // most 180, window 360: the greatest of each
    private static void greatestRule() {
        PassageCourt x = three();
        x.rule(0, 180, 360);
        x.enter(0, 0);
        Check.passTo(x, 0, 179);
        Check.due("the 180th", x.status(0), VISITOR);
        both(x, 0, "180", 180);
        x.leave(0);
        x.enter(0, 0);
        x.pass(1);
        Check.due("the 181st", x.status(0), OVERSTAYED);
        x.leave(0);
        x.lift(0, 0);
        Check.passTo(x, 180, 359);
        both(x, 0, "the day 0 is the 360th", 181);
        x.pass(1);
        both(x, 0, "the day 0 is the 361st", 180);
        Check.due("180 and today", x.reason(0, 0), 3);
        x.pass(1);
        Check.due("179 and today", x.reason(0, 0), 0);
    }

    // "rules have a day from which they are in force"
    private static void ruleInForceFromItsDay() {
        PassageCourt x = three();
        Check.due("two then", x.rule(5, 0, 1), 2);
        x.enter(0, 0);
        x.pass(4);
        Check.due("a day ahead of it", x.status(0), VISITOR);
        both(x, 0, "by the first rule", 5);
        Check.due("may enter", x.reason(0, 0), 0);
        x.pass(1);
        Check.due("on its day", x.status(0), OVERSTAYED);
        both(x, 0, "by that one", 1);
        Check.due("may not", x.reason(0, 0), 3);

        PassageCourt z = three();
        z.pass(5);
        z.rule(5, 0, 1);
        Check.due("one of today is in force today", z.reason(0, 0), 3);
        z.rule(6, 1, 1);
        Check.due("one of tomorrow is not", z.reason(0, 0), 3);
        z.pass(1);
        Check.due("but then", z.reason(0, 0), 0);

        PassageCourt w = three();
        w.rule(3600, 0, 1);
        Check.passTo(w, 0, 3599);
        Check.due("the last day but one", w.reason(0, 0), 0);
        w.pass(1);
        Check.due("the last day", w.reason(0, 0), 3);
    }

    // "that of a day is the one with the greatest day that is not later"
    private static void greatestDayThatIsNotLater() {
        PassageCourt x = three();
        x.rule(4, 0, 4);
        x.rule(2, 1, 2);
        x.rule(3, 2, 3);
        x.rule(9, 5, 9);
        x.slip(0, 0);
        int[] windows = {1, 2, 2, 3, 4, 4, 4, 4, 4, 9};
        for (int day = 0; day < 10; day++) {
            both(x, 0, "the window on the day " + day, windows[day]);
            x.pass(1);
        }
        x.leave(0);
        x.lift(0, 0);
        x.rule(10, 9, 9);
        Check.due("one told of late for today", x.reason(0, 0), 0);
        x.rule(12, 0, 12);
        x.pass(1);
        Check.due("it stays in force", x.reason(0, 0), 0);
        x.pass(1);
        Check.due("until the next one is", x.reason(0, 0), 3);
        both(x, 0, "its window", 10);
    }

    // "of several the last one that was told; the first one, of the day 0, is 90 days in 180"
    private static void ofSeveralTheLastThatWasTold() {
        PassageCourt x = three();
        x.slip(0, 0);
        x.pass(3);
        for (int i = 1; i <= 4; i++) {
            Check.due("rules then", x.rule(3, 0, i), i + 1);
            both(x, 0, "the last one told", i);
        }
        x.rule(3, 0, 2);
        both(x, 0, "also when it was told ahead", 2);
        PassageCourt z = three();
        z.rule(0, 0, 1);
        Check.due("one of the day 0 is behind the first one", z.reason(0, 0), 3);
        z.rule(1, 90, 180);
        z.rule(0, 1, 1);
        Check.due("and one behind that", z.reason(0, 0), 0);
        z.rule(0, 0, 9);
        z.pass(1);
        Check.due("that of the day 1 is the greatest", z.reason(0, 0), 0);
    }

    private static void ruleOfTheDayOfTheWindow() {
        PassageCourt x = three();
        x.rule(10, 3, 4);
        x.rule(20, 90, 180);
        x.enter(0, 0);
        x.pass(9);
        Check.due("90 in 180", x.status(0), VISITOR);
        x.pass(1);
        Check.due("3 in 4, and 3 of them are ahead of the rule", x.status(0), OVERSTAYED);
        x.leave(0);
        x.lift(0, 0);
        x.pass(1);
        Check.due("three in the window ahead of today", x.reason(0, 0), 3);
        x.pass(1);
        Check.due("two", x.reason(0, 0), 0);
        x.pass(8);
        both(x, 0, "the days of all that time count again", 11);
    }

    // "In a land that is not in the region, one has days left on the first 60 days of a stay there, that of entering with them."
    private static void first60DaysOutside() {
        PassageCourt x = three();
        x.rule(0, 0, 1);
        x.pass(5);
        Check.due("no rule of the region", x.enter(0, 3), 0);
        x.pass(58);
        Check.due("the 59th", x.status(0), VISITOR);
        x.pass(1);
        Check.due("the 60th", x.status(0), VISITOR);
        x.pass(1);
        Check.due("the 61st", x.status(0), OVERSTAYED);
        x.pass(1);
        Check.due("the 62nd", x.status(0), OVERSTAYED);
        Check.due("two days", x.about(0, 4), 2);
        Check.due("20 days of ban", x.leave(0), 86);
        x.lift(3, 0);
        Check.due("another stay on the same day", x.enter(0, 3), 0);
        Check.due("has its days", x.status(0), VISITOR);
        x.pass(59);
        Check.due("60 of them", x.status(0), VISITOR);
        Check.due("none too many", x.leave(0), PassageCourt.NONE);
        x.enter(0, 3);
        x.pass(60);
        Check.due("the 61st of a stay that began on a day of leaving", x.status(0), OVERSTAYED);
    }

    private static void stayOutsideWithItsDaysAsANational() {
        for (int last = 58; last <= 60; last++) {
            PassageCourt x = three();
            x.nation(0, 3, true);
            x.enter(0, 3);
            x.pass(last);
            Check.due("NATIONAL", x.status(0), NATIONAL);
            x.nation(0, 3, false);
            x.pass(1);
            Check.due("day " + (last + 2) + " of the stay", x.status(0), last == 58 ? VISITOR : OVERSTAYED);
        }
        PassageCourt z = three();
        z.nation(0, 0, true);
        z.enter(0, 0);
        Check.passTo(z, 0, 150);
        z.nation(0, 0, false);
        z.pass(1);
        both(z, 0, "in the region days as NATIONAL do not count", 1);
        z.pass(89);
        Check.due("so there are 90", z.status(0), VISITOR);
        z.pass(1);
        Check.due("and not 91", z.status(0), OVERSTAYED);
    }
}
