/** The sentences of 'Residence': requests, who follows, quotas, permits, extending, clocks, the oath. */
public final class TermsResidenceTest {
    private static final int NONE = PassageCourt.NONE;
    private static final int WAITING = PassageCourt.WAITING, GRANTED = PassageCourt.GRANTED;
    private static final int REFUSED = PassageCourt.REFUSED, APPEALED = PassageCourt.APPEALED, OVER = PassageCourt.OVER;
    private static final Class<?> STATE = IllegalStateException.class;

    public static void main(String[] args) {
        dateOfARequest();
        atMost40Requests();
        atMost3Follow();
        aChildFollows();
        quotaOf0To9();
        yearsAndQuotas();
        classesFrom0On();
        leftOverByTheClassAhead();
        leftOverIsLost();
        earlierDateThenLowerNumber();
        whoFollowsTakesNoPlace();
        onlyWaitingIsGranted();
        permitOf360Days();
        permitGoesOn();
        permitValidAtLeastSoLong();
        permitOfOneWhoFollowsGoesOn();
        extendedBy360Days();
        thereOn180Of360();
        the360DaysEndToday();
        theLastLandOfADay();
        appealedWithin30Days();
        judgedWithin60Days();
        judgedWell();
        withdrawnWhileWaiting();
        placeAmongThoseWaiting();
        oathSince1080Days();
        oathWithoutABreak();
        oathAtTheEndOfAPermit();
        Check.end();
    }

    /** Lands 0 and 1 of the region, 2 outside; persons 0 to 15 of nation 2. */
    private static PassageCourt sixteen() {
        PassageCourt x = new PassageCourt();
        x.land(true, false, false, 0);
        x.land(true, false, false, 0);
        x.land(false, false, true, 0);
        for (int i = 0; i < 16; i++) {
            x.person(2, i);
        }
        return x;
    }

    private static void states(PassageCourt x, String what, int... due) {
        for (int i = 0; i < due.length; i++) {
            Check.due(what + ", request " + i, x.ofRequest(i, 0), due[i]);
        }
    }

    // "has a date, the day on which it was made"
    private static void dateOfARequest() {
        PassageCourt x = sixteen();
        x.ask(0, 0, 0);
        x.pass(100);
        x.ask(1, 0, 0);
        Check.passTo(x, 100, 3600);
        x.ask(2, 0, 0);
        Check.due("the day 0", x.ofRequest(0, 1), 0);
        Check.due("the day 100", x.ofRequest(1, 1), 100);
        Check.due("the last day", x.ofRequest(2, 1), 3600);
        Check.due("its class and land: the third place", x.ofRequest(2, 3), 2);
    }

    // "requests are numbered from 0, at most 40"
    private static void atMost40Requests() {
        PassageCourt x = sixteen();
        for (int i = 0; i < 32; i++) {
            Check.due("numbered", x.ask(i % 16, i / 16, i % 3), i);
        }
        for (int i = 32; i < 40; i++) {
            x.withdraw(i - 32);
            Check.due("those that are OVER count too", x.ask(i - 32, 0, 0), i);
        }
        Check.due("the last one", x.ofRequest(39, 0), WAITING);
        Check.due("none more", Check.thrownBy(x, y -> { y.withdraw(39); y.ask(7, 0, 0); }).equals(STATE.getName()), true);
        Check.due("though that is OVER", x.ofRequest(39, 0), OVER);
    }

    // "Others can join it, who follow: at most 3"
    private static void atMost3Follow() {
        PassageCourt x = sixteen();
        x.ask(15, 0, 0);
        Check.due("nobody", x.ofRequest(0, 2), 0);
        Check.due("one", x.join(0, 0), 1);
        Check.due("two", x.join(0, 14), 2);
        Check.due("three", x.join(0, 7), 3);
        Check.due("three follow", x.ofRequest(0, 2), 3);
        Check.refused("a fourth", STATE, TermsResidenceTest::threeFollow, y -> y.join(0, 4));
        Check.due("one follows several", x.join(x.ask(1, 0, 0), 0), 1);
    }

    private static PassageCourt threeFollow() {
        PassageCourt x = sixteen();
        x.ask(0, 0, 0);
        for (int i = 1; i <= 3; i++) {
            x.join(0, i);
        }
        return x;
    }

    // "a child of the person follows only as long as it was less than 18 years old on the date of the request"
    private static void aChildFollows() {
        PassageCourt x = new PassageCourt();
        x.land(true, false, false, 0);
        x.person(NONE, 20);
        x.person(NONE, 20);
        x.slip(0, 0);
        int child = x.birth(0, 1);
        Check.passTo(x, 0, 3600);
        int later = x.birth(0, 1);
        x.ask(0, 0, 0);
        x.ask(1, 0, 0);
        Check.due("ten years old at most", x.join(0, child), 1);
        Check.due("that of the father too", x.join(1, child), 1);
        Check.due("one of today", x.join(0, later), 2);
        Check.due("one who is no child, of 99 years", x.join(0, x.person(NONE, 99)), 3);
        Check.due("a parent of the person", x.join(x.ask(child, 0, 0), 0), 1);
    }

    // "A land has a quota for each class, 0 to 9, 0 at first."
    private static void quotaOf0To9() {
        PassageCourt x = sixteen();
        for (int land = 0; land < 3; land++) {
            for (int type = 0; type < 3; type++) {
                Check.due("0 at first", x.quota(land, type, 0), 0);
            }
        }
        for (int i = 0; i < 11; i++) {
            x.ask(i, 0, 1);
        }
        Check.passTo(x, 0, 360);
        Check.due("none by a quota of 0", x.ofRequest(0, 0), WAITING);
        Check.due("the most", x.quota(0, 1, 9), 0);
        Check.passTo(x, 360, 720);
        Check.due("the ninth", x.ofRequest(8, 0), GRANTED);
        Check.due("the tenth", x.ofRequest(9, 0), WAITING);
        Check.due("it is the first now", x.ofRequest(9, 3), 0);
        Check.due("the quota stands", x.quota(0, 1, 1), 9);
        Check.passTo(x, 720, 1080);
        Check.due("by a quota of 1", x.ofRequest(9, 0), GRANTED);
        Check.due("one alone", x.ofRequest(10, 0), WAITING);
    }

    // "When a year begins"
    private static void yearsAndQuotas() {
        PassageCourt x = sixteen();
        x.quota(0, 0, 1);
        x.ask(0, 0, 0);
        x.ask(1, 0, 0);
        Check.passTo(x, 0, 359);
        states(x, "the last day of the year 0", WAITING, WAITING);
        x.pass(1);
        states(x, "the year 1", GRANTED, WAITING);
        x.ask(2, 1, 0);
        x.quota(1, 0, 9);
        Check.passTo(x, 360, 719);
        states(x, "its last day", GRANTED, WAITING, WAITING);
        x.quota(0, 0, 0);
        x.pass(1);
        states(x, "by the quotas of the day on which it begins", GRANTED, WAITING, GRANTED);
        PassageCourt z = sixteen();
        z.quota(0, 0, 1);
        z.ask(0, 0, 0);
        z.pass(100);
        z.pass(100);
        z.pass(100);
        z.pass(100);
        Check.due("within days that pass at once", z.ofRequest(0, 0), GRANTED);
        Check.due("from the day 360 on", z.permit(0, 0), 719);
    }

    // "its classes are gone through from 0 on: as many of the requests that are WAITING as the quota, and what .. left over"
    private static void classesFrom0On() {
        PassageCourt x = sixteen();
        for (int type = 0; type < 3; type++) {
            x.quota(0, type, 1);
            x.quota(1, type, type);
        }
        int number = 0;
        for (int type = 2; type >= 0; type--) {
            for (int i = 0; i < 2; i++, number++) {
                x.ask(number, 0, type);
                x.ask(number, 1, type);
            }
        }
        Check.passTo(x, 0, 360);
        // requests by pairs of land 0 and 1: two of class 2, two of class 1, two of class 0
        states(x, "each class has its own", GRANTED, GRANTED, WAITING, GRANTED, GRANTED, GRANTED, WAITING, WAITING,
            GRANTED, WAITING, WAITING, WAITING);
    }

    // "and what the class ahead has left over, together"
    private static void leftOverByTheClassAhead() {
        for (int asked = 0; asked <= 3; asked++) {
            PassageCourt x = sixteen();
            x.quota(0, 0, 3);
            for (int i = 0; i < asked; i++) {
                x.ask(i, 0, 0);
            }
            for (int i = 3; i < 8; i++) {
                x.ask(i, 0, 1);
            }
            Check.passTo(x, 0, 360);
            for (int i = 0; i < 5; i++) {
                Check.due("of class 1, with " + asked + " of class 0", x.ofRequest(asked + i, 0),
                    i < 3 - asked ? GRANTED : WAITING);
            }
        }
        PassageCourt x = sixteen();
        x.quota(0, 0, 1);
        x.quota(0, 1, 2);
        x.quota(0, 2, 1);
        x.ask(0, 0, 1);
        for (int i = 1; i < 6; i++) {
            x.ask(i, 0, 2);
        }
        Check.passTo(x, 0, 360);
        states(x, "1 over, 2 + 1 - 1 over, 1 + 2", GRANTED, GRANTED, GRANTED, GRANTED, WAITING, WAITING);
    }

    // "What the class 2 leaves over is lost."
    private static void leftOverIsLost() {
        PassageCourt x = sixteen();
        x.quota(0, 2, 9);
        x.ask(0, 0, 0);
        x.ask(1, 0, 1);
        x.ask(2, 1, 0);
        x.ask(3, 1, 2);
        x.ask(4, 0, 2);
        Check.passTo(x, 0, 360);
        states(x, "not to a class ahead, nor to the next land", WAITING, WAITING, WAITING, WAITING, GRANTED);
        x.quota(0, 2, 0);
        Check.passTo(x, 360, 720);
        states(x, "nor to the next year", WAITING, WAITING, WAITING, WAITING, GRANTED);
        PassageCourt z = sixteen();
        z.quota(0, 2, 1);
        Check.passTo(z, 0, 360);
        for (int i = 0; i < 2; i++) {
            z.ask(i, 0, 2);
        }
        Check.passTo(z, 360, 720);
        states(z, "a year does not add to the next", GRANTED, WAITING);
    }

    // "those with the earlier date first, of these those with the lower number"
    private static void earlierDateThenLowerNumber() {
        PassageCourt x = sixteen();
        x.ask(9, 0, 0);
        x.ask(5, 0, 0);
        x.pass(1);
        x.ask(3, 0, 0);
        x.ask(1, 0, 0);
        for (int year = 1; year <= 4; year++) {
            x.quota(0, 0, 1);
            Check.passTo(x, year == 1 ? 1 : 360 * year - 360, 360 * year);
            for (int i = 0; i < 4; i++) {
                Check.due("in the year " + year + " request " + i, x.ofRequest(i, 0), i < year ? GRANTED : WAITING);
            }
        }
        PassageCourt z = sixteen();
        z.ask(0, 0, 0);
        z.refuse(0);
        z.pass(30);
        z.ask(1, 0, 0);
        z.appeal(0);
        z.pass(60);
        z.judge(0, true);
        z.quota(0, 0, 1);
        Check.passTo(z, 90, 360);
        states(z, "WAITING again, with its date", GRANTED, WAITING);
    }

    // "who follows takes no place"
    private static void whoFollowsTakesNoPlace() {
        PassageCourt x = sixteen();
        x.quota(0, 0, 2);
        for (int i = 0; i < 3; i++) {
            x.ask(4 * i, 0, 0);
            x.join(i, 4 * i + 1);
            x.join(i, 4 * i + 2);
            x.join(i, 4 * i + 3);
        }
        Check.passTo(x, 0, 360);
        states(x, "two, of three, with three that follow", GRANTED, GRANTED, WAITING);
        for (int i = 0; i < 16; i++) {
            Check.due("the permit of " + i, x.permit(i, 0), i < 8 ? 719 : NONE);
            Check.due("of another land", x.permit(i, 1), NONE);
        }
    }

    private static void onlyWaitingIsGranted() {
        PassageCourt x = sixteen();
        x.quota(0, 0, 9);
        Check.passTo(x, 0, 340);
        for (int i = 0; i < 5; i++) {
            x.ask(i, 0, 0);
        }
        x.refuse(1);
        x.refuse(2);
        x.appeal(2);
        x.withdraw(3);
        Check.passTo(x, 340, 360);
        states(x, "of each state", GRANTED, REFUSED, APPEALED, OVER, GRANTED);
        x.appeal(1);
        x.judge(2, true);
        Check.passTo(x, 360, 420);
        x.judge(1, true);
        Check.passTo(x, 420, 720);
        states(x, "a year later", GRANTED, GRANTED, GRANTED, OVER, GRANTED);
        Check.due("its permit begins then", x.permit(2, 0), 1079);
        Check.due("that of the year ahead is over", x.permit(0, 0), NONE);
    }

    // "have a permit of the land, valid for 360 days, that day with them"
    private static void permitOf360Days() {
        PassageCourt x = sixteen();
        x.quota(2, 1, 1);
        x.nation(0, 2, false);
        x.ask(0, 2, 1);
        Check.passTo(x, 0, 359);
        Check.due("the day ahead", x.permit(0, 2), NONE);
        x.pass(1);
        Check.due("that day", x.permit(0, 2), 719);
        Check.due("RESIDENT on it", x.enter(0, 2), 0);
        Check.due("RESIDENT on it", x.status(0), PassageCourt.RESIDENT);
        Check.passTo(x, 360, 719);
        Check.due("the 360th day", x.permit(0, 2), 719);
        x.pass(1);
        Check.due("the 361st", x.permit(0, 2), NONE);
        PassageCourt z = sixteen();
        z.quota(0, 0, 1);
        Check.passTo(z, 0, 3599);
        z.ask(0, 0, 0);
        z.pass(1);
        Check.due("one of the last day", z.permit(0, 0), 3959);
    }

    /** Person 0 has a permit of land 0 from 360 on and is there since 0; it asks again, granted in 720; today is 719. */
    private static PassageCourt askedAgain(int extensions) {
        PassageCourt x = sixteen();
        x.slip(0, 0);
        x.quota(0, 0, 1);
        x.ask(0, 0, 0);
        Check.passTo(x, 0, 719);
        for (int i = 0; i < extensions; i++) {
            x.extend(0, 0);
        }
        x.ask(0, 0, 0);
        return x;
    }

    // "one that is valid on that day still goes on without a break"
    private static void permitGoesOn() {
        PassageCourt x = askedAgain(1);
        x.pass(1);
        Check.due("granted while valid to 1079", x.ofRequest(1, 0), GRANTED);
        Check.due("360 days of 720 on", x.permit(0, 0), 1079);
        x.extend(0, 0);
        Check.passTo(x, 720, 1439);
        Check.due("1079 days", Check.thrownBy(x, y -> y.oath(0, 0)).equals(STATE.getName()), true);
        x.extend(0, 0);
        x.pass(1);
        Check.due("without a break since 360", x.oath(0, 0), 5);

        PassageCourt z = askedAgain(0);
        Check.due("it ends today", z.permit(0, 0), 719);
        z.pass(1);
        Check.due("another one begins", z.permit(0, 0), 1079);
        z.extend(0, 0);
        z.extend(0, 0);
        Check.passTo(z, 720, 1440);
        Check.due("1080 since the first one", Check.thrownBy(z, y -> y.oath(0, 0)).equals(STATE.getName()), true);
        Check.passTo(z, 1440, 1799);
        Check.due("1079 since the other one", Check.thrownBy(z, y -> y.oath(0, 0)).equals(STATE.getName()), true);
        z.extend(0, 0);
        z.pass(1);
        Check.due("1080 since the other one", z.oath(0, 0), 5);
    }

    // "and is valid at least so long as it was"
    private static void permitValidAtLeastSoLong() {
        for (int extensions = 0; extensions <= 3; extensions++) {
            PassageCourt x = askedAgain(extensions);
            Check.due("before", x.permit(0, 0), 719 + 360 * extensions);
            x.pass(1);
            Check.due("granted", x.ofRequest(1, 0), GRANTED);
            Check.due("the later of both", x.permit(0, 0), Math.max(1079, 719 + 360 * extensions));
        }
    }

    // "the person and all who follow have a permit of the land": of one who follows it goes on as of any other
    private static void permitOfOneWhoFollowsGoesOn() {
        PassageCourt x = askedAgain(1);
        x.join(1, 5);
        x.join(x.ask(6, 0, 0), 5);
        x.quota(0, 0, 2);
        x.pass(1);
        states(x, "that of the year ahead, and two of this one", GRANTED, GRANTED, GRANTED);
        Check.due("granted twice on a day: once", x.permit(5, 0), 1079);
        x.ask(6, 0, 0);
        x.join(3, 5);
        x.join(3, 0);
        x.extend(0, 0);
        Check.passTo(x, 720, 1080);
        Check.due("it was over on the day ahead: another one", x.permit(5, 0), 1439);
        Check.due("of one who had it longer", x.permit(0, 0), 1439);
        x.slip(5, 0);
        x.extend(0, 0);
        Check.passTo(x, 1080, 1440);
        Check.due("without a break since 360, then by following", x.oath(0, 0), 5);
        Check.due("since 1080 alone", Check.thrownBy(x, y -> y.oath(5, 0)).equals(STATE.getName()), true);
    }

    // "A permit can be extended by 360 days, if it is valid"
    private static void extendedBy360Days() {
        PassageCourt x = sixteen();
        x.slip(0, 0);
        x.quota(0, 0, 1);
        x.ask(0, 0, 0);
        Check.refused("the day ahead of it", STATE, TermsResidenceTest::day359, y -> y.extend(0, 0));
        Check.passTo(x, 0, 360);
        Check.due("on its first day", x.extend(0, 0), 1079);
        Check.due("and again", x.extend(0, 0), 1439);
        Check.due("it stands", x.permit(0, 0), 1439);
        Check.passTo(x, 360, 1439);
        Check.due("on its last day", x.extend(0, 0), 1799);
        Check.refused("the day behind its last", STATE, TermsResidenceTest::day720, y -> y.extend(0, 0));
    }

    private static PassageCourt day359() {
        PassageCourt x = sixteen();
        x.slip(0, 0);
        x.quota(0, 0, 1);
        x.ask(0, 0, 0);
        Check.passTo(x, 0, 359);
        return x;
    }

    private static PassageCourt day720() {
        PassageCourt x = day359();
        Check.passTo(x, 359, 720);
        return x;
    }

    /** Day 360; person 0 has a permit of land 0 and is abroad, as ever. */
    private static PassageCourt abroadWithAPermit() {
        PassageCourt x = sixteen();
        x.quota(0, 0, 1);
        x.ask(0, 0, 0);
        Check.passTo(x, 0, 360);
        return x;
    }

    private static PassageCourt thereFor(int days) {
        PassageCourt x = abroadWithAPermit();
        x.pass(5);
        x.enter(0, 0);
        Check.passTo(x, 365, 364 + days);
        return x;
    }

    // "on at least 180 days of the last 360, that of today with them"
    private static void thereOn180Of360() {
        Check.refused("not at all", STATE, TermsResidenceTest::abroadWithAPermit, y -> y.extend(0, 0));
        Check.refused("179 days, today with them", STATE, () -> thereFor(179), y -> y.extend(0, 0));
        Check.due("180 days, today with them", thereFor(180).extend(0, 0), 1079);
        Check.due("181 days", thereFor(181).extend(0, 0), 1079);
        PassageCourt x = thereFor(180);
        x.leave(0);
        Check.due("on the day of leaving", x.extend(0, 0), 1079);
        x.pass(1);
        Check.due("and behind it", x.extend(0, 0), 1439);
    }

    private static PassageCourt leftFor(int days) {
        PassageCourt x = thereFor(180);
        x.extend(0, 0);
        x.leave(0);
        Check.passTo(x, 544, 544 + days);
        return x;
    }

    private static void the360DaysEndToday() {
        Check.due("entered 359 days ago", leftFor(180).extend(0, 0), 1439);
        Check.refused("entered 360 days ago", STATE, () -> leftFor(181), y -> y.extend(0, 0));
        PassageCourt x = leftFor(181);
        x.enter(0, 0);
        Check.due("and here today again", x.extend(0, 0), 1439);
    }

    // "by what one was on each day, a day on which one moves on counting for the last land alone"
    private static void theLastLandOfADay() {
        PassageCourt x = thereFor(180);
        x.move(0, 1);
        Check.due("moved on", Check.thrownBy(x, y -> y.extend(0, 0)).equals(STATE.getName()), true);
        x.move(0, 0);
        Check.due("and back", x.extend(0, 0), 1079);
        PassageCourt z = abroadWithAPermit();
        z.slip(0, 1);
        z.pass(5);
        z.move(0, 0);
        Check.passTo(z, 365, 543);
        Check.due("179 days with that of moving in", Check.thrownBy(z, y -> y.extend(0, 0)).equals(STATE.getName()), true);
        z.pass(1);
        Check.due("180 days with that of moving in", z.extend(0, 0), 1079);
        PassageCourt w = thereFor(180);
        w.leave(0);
        w.enter(0, 2);
        Check.due("out and into another one", Check.thrownBy(w, y -> y.extend(0, 0)).equals(STATE.getName()), true);
    }

    /** Request 0, of the day 3, refused on the day 5. */
    private static PassageCourt refused() {
        PassageCourt x = sixteen();
        x.pass(3);
        x.ask(0, 0, 0);
        x.pass(2);
        Check.due("the last day for an appeal", x.refuse(0), 35);
        return x;
    }

    private static PassageCourt refusedAnd(int days) {
        PassageCourt x = refused();
        x.pass(days);
        return x;
    }

    // "within 30 days it can be appealed"; "without an appeal .. OVER when the day behind that begins"
    private static void appealedWithin30Days() {
        Check.due("at once", refused().appeal(0), 65);
        PassageCourt x = refusedAnd(30);
        Check.due("REFUSED on the 30th day", x.ofRequest(0, 0), REFUSED);
        Check.due("60 days from the appeal on", x.appeal(0), 95);
        Check.due("APPEALED", x.ofRequest(0, 0), APPEALED);
        Check.due("with its date", x.ofRequest(0, 1), 3);
        PassageCourt z = refusedAnd(31);
        Check.due("OVER on the day behind", z.ofRequest(0, 0), OVER);
        Check.refused("no appeal then", STATE, () -> refusedAnd(31), y -> y.appeal(0));
        Check.taken("but another request", () -> refusedAnd(31), y -> y.ask(0, 0, 0));
        Check.refused("not on the 30th day", STATE, () -> refusedAnd(30), y -> y.ask(0, 0, 0));
        PassageCourt w = Scene.onDay(3580);
        w.ask(2, 1, 0);
        Check.due("its last day may never come", w.refuse(4), 3610);
        Check.due("nor that of the judgement", w.appeal(4), 3640);
        w.pass(20);
        Check.due("so it stays", w.ofRequest(4, 0), APPEALED);
    }

    private static PassageCourt appealedAnd(int days) {
        PassageCourt x = refusedAnd(30);
        x.appeal(0);
        x.pass(days);
        return x;
    }

    // "if the appeal is judged well within 60 days"; "or without a judgement in time, it is OVER when the day behind begins"
    private static void judgedWithin60Days() {
        PassageCourt x = appealedAnd(60);
        Check.due("APPEALED on the 60th day", x.ofRequest(0, 0), APPEALED);
        Check.due("judged well", x.judge(0, true), WAITING);
        Check.due("judged otherwise", appealedAnd(60).judge(0, false), OVER);
        PassageCourt z = appealedAnd(61);
        Check.due("OVER on the day behind", z.ofRequest(0, 0), OVER);
        Check.refused("not judged then", STATE, () -> appealedAnd(61), y -> y.judge(0, true));
        Check.taken("but another request", () -> appealedAnd(61), y -> y.ask(0, 0, 0));
        Check.refused("not on the 60th day", STATE, () -> appealedAnd(60), y -> y.ask(0, 0, 0));
    }

    // "it is WAITING again, with its date, otherwise it is OVER"
    private static void judgedWell() {
        PassageCourt x = appealedAnd(1);
        x.ask(1, 0, 0);
        x.judge(0, true);
        Check.due("WAITING", x.ofRequest(0, 0), WAITING);
        Check.due("with its date", x.ofRequest(0, 1), 3);
        Check.due("and its place", x.ofRequest(0, 3), 0);
        Check.due("ahead of the other one", x.ofRequest(1, 3), 1);
        x.pass(100);
        Check.due("no clock goes on", x.ofRequest(0, 0), WAITING);
        Check.due("it can be joined", x.join(0, 2), 1);
        Check.due("refused again: 30 days of today", x.refuse(0), 166);
        x.pass(30);
        Check.due("and appealed again", x.appeal(0), 226);
        Check.due("and judged", x.judge(0, false), OVER);
        Check.due("who follows is told of still", x.ofRequest(0, 2), 1);
        Check.due("another one can be made", x.ask(0, 0, 0), 2);
    }

    // "It can be withdrawn while WAITING."
    private static void withdrawnWhileWaiting() {
        PassageCourt x = sixteen();
        x.ask(0, 0, 0);
        Check.due("on its day", x.withdraw(0), 0);
        x.ask(0, 0, 0);
        x.pass(1);
        Check.due("a day later", x.withdraw(1), 1);
        Check.due("OVER", x.ofRequest(1, 0), OVER);
        x.ask(0, 0, 0);
        Check.passTo(x, 1, 3600);
        Check.due("at the end", x.withdraw(2), 3599);
        PassageCourt z = appealedAnd(1);
        z.judge(0, true);
        Check.due("WAITING again, of its date", z.withdraw(0), 33);
        PassageCourt w = sixteen();
        w.quota(0, 0, 1);
        w.ask(0, 0, 0);
        w.ask(1, 0, 0);
        Check.passTo(w, 0, 359);
        w.withdraw(0);
        w.pass(1);
        states(w, "on the last day of the year", OVER, GRANTED);
    }

    // "its place among those WAITING of its land and class, by date and number, from 0, NONE if it is not WAITING"
    private static void placeAmongThoseWaiting() {
        PassageCourt x = sixteen();
        for (int i = 0; i < 12; i++) {
            x.ask(i, i % 2, i % 3);
            x.pass(1);
        }
        for (int i = 0; i < 12; i++) {
            Check.due("place of " + i, x.ofRequest(i, 3), i / 6);
        }
        x.refuse(0);
        Check.due("NONE", x.ofRequest(0, 3), NONE);
        Check.due("the next one is the first", x.ofRequest(6, 3), 0);
        Check.due("others stay", x.ofRequest(7, 3), 1);
        x.appeal(0);
        Check.due("NONE", x.ofRequest(0, 3), NONE);
        x.judge(0, true);
        Check.due("its place again", x.ofRequest(0, 3), 0);
        Check.due("the second again", x.ofRequest(6, 3), 1);
        x.withdraw(6);
        Check.due("NONE", x.ofRequest(6, 3), NONE);
        Check.due("behind one that is OVER", x.ofRequest(x.ask(15, 0, 0), 3), 1);
    }

    private static PassageCourt since(int days) {
        PassageCourt x = Scene.granted();
        for (int i = 0; i < 3; i++) {
            x.extend(0, 0);
        }
        Check.passTo(x, 360, 360 + days);
        return x;
    }

    // "if one has a permit of that land that is valid without a break since 1080 days or more"
    private static void oathSince1080Days() {
        Check.refused("1079 days", STATE, () -> since(1079), y -> y.oath(0, 0));
        Check.due("1080 days", since(1080).oath(0, 0), 5);
        Check.due("1081 days", since(1081).oath(0, 0), 5);
        PassageCourt x = since(1080);
        x.leave(0);
        Check.due("abroad", Check.thrownBy(x, y -> y.oath(0, 0)).equals(STATE.getName()), true);
        x.enter(0, 0);
        Check.due("in it", x.oath(0, 0), 5);
        Check.due("one is of that nation then", x.about(0, 1), 5);
        Check.due("once", Check.thrownBy(x, y -> y.oath(0, 0)).equals(STATE.getName()), true);
        x.nation(0, 0, false);
        Check.due("not any more, so again", x.oath(0, 0), 5);
    }

    private static void oathWithoutABreak() {
        PassageCourt x = Scene.granted();
        Check.passTo(x, 360, 600);
        x.ask(0, 0, 0);
        Check.passTo(x, 600, 720);
        Check.due("granted when the first one was over", x.permit(0, 0), 1079);
        for (int i = 0; i < 3; i++) {
            x.extend(0, 0);
        }
        Check.passTo(x, 720, 1799);
        Check.due("1079 days since the break", Check.thrownBy(x, y -> y.oath(0, 0)).equals(STATE.getName()), true);
        x.pass(1);
        Check.due("1080 days since the break", x.oath(0, 0), 5);
    }

    private static void oathAtTheEndOfAPermit() {
        PassageCourt x = since(1080);
        Check.passTo(x, 1440, 1799);
        Check.due("its last day", x.permit(0, 0), 1799);
        Check.due("on it", x.oath(0, 0), 5);
        Check.refused("the day behind it", STATE, () -> since(1440), y -> y.oath(0, 0));
    }
}
