/** Promises 15 to 23, 32 and 33: quotas, requests, who follows, refusals, permits, oaths. */
public final class ResidenceTest {
    private static final Class<?> NO_SUCH = IndexOutOfBoundsException.class;
    private static final Class<?> WRONG = IllegalArgumentException.class;
    private static final Class<?> STATE = IllegalStateException.class;

    public static void main(String[] args) {
        quota();
        quotaSpills();
        quotaSpillIsLost();
        quotaGoesByDate();
        quotaAtEachYear();
        ask();
        askWrong();
        join();
        joinWrong();
        refuseAndAppeal();
        appealWrong();
        judge();
        judgeWrong();
        withdraw();
        permit();
        permitWrong();
        extend();
        extendCountsTheLastLand();
        extendWrong();
        permitGoesOn();
        oath();
        oathAfterABreak();
        oathWrong();
        ofRequest();
        Check.end();
    }

    /** Lands 0 and 1 of the region, 2 outside; persons 0 to 4 of nation 2. */
    private static PassageCourt five() {
        PassageCourt x = new PassageCourt();
        x.land(true, true, true, 0);
        x.land(true, false, false, 0);
        x.land(false, true, false, 9);
        for (int i = 0; i < 5; i++) {
            x.person(2, 10 * i);
        }
        return x;
    }

    private static void quota() {
        PassageCourt x = five();
        Check.due("0 at first", x.quota(2, 2, 9), 0);
        Check.due("the one before", x.quota(2, 2, 4), 9);
        Check.due("of another class", x.quota(2, 1, 0), 0);
        Check.due("of another land", x.quota(1, 2, 0), 0);
        Check.due("of that one", x.quota(2, 2, 0), 4);
        Check.refused("no land", NO_SUCH, ResidenceTest::five, y -> y.quota(3, 3, 1));
        Check.refused("land -1", NO_SUCH, ResidenceTest::five, y -> y.quota(-1, 0, 1));
        Check.refused("type -1", WRONG, ResidenceTest::five, y -> y.quota(0, -1, 1));
        Check.refused("type 3", WRONG, ResidenceTest::five, y -> y.quota(0, 3, 1));
        Check.refused("quota -1", WRONG, ResidenceTest::five, y -> y.quota(0, 0, -1));
        Check.refused("quota 10", WRONG, ResidenceTest::five, y -> y.quota(0, 0, 10));
    }

    private static void states(PassageCourt x, String what, int... due) {
        for (int i = 0; i < due.length; i++) {
            Check.due(what + ", request " + i, x.ofRequest(i, 0), due[i]);
        }
    }

    private static void quotaSpills() {
        PassageCourt x = five();
        x.quota(0, 0, 3);
        x.quota(0, 1, 1);
        x.ask(0, 0, 2);
        x.ask(1, 0, 2);
        x.ask(2, 0, 1);
        x.ask(3, 0, 0);
        x.ask(4, 0, 2);
        Check.passTo(x, 0, 359);
        states(x, "not yet", 0, 0, 0, 0, 0);
        x.pass(1);
        states(x, "3 - 1, and 1 - 1, and 2 of 3", 1, 1, 1, 1, 0);
        Check.due("the place of the one that waits", x.ofRequest(4, 3), 0);
    }

    private static void quotaSpillIsLost() {
        PassageCourt x = five();
        x.quota(0, 0, 1);
        x.quota(0, 2, 9);
        x.ask(0, 0, 0);
        x.ask(1, 0, 0);
        x.ask(2, 1, 0);
        x.ask(3, 0, 1);
        Check.passTo(x, 0, 360);
        states(x, "nothing back to a class ahead, nor to another land", 1, 0, 0, 0);
        x.quota(0, 0, 0);
        x.quota(0, 2, 0);
        Check.passTo(x, 360, 720);
        states(x, "nor to another year", 1, 0, 0, 0);
    }

    private static void quotaGoesByDate() {
        PassageCourt x = five();
        x.quota(0, 1, 2);
        x.ask(4, 0, 1);
        x.pass(5);
        x.ask(1, 0, 1);
        x.ask(0, 0, 1);
        x.refuse(0);
        x.appeal(0);
        x.pass(5);
        x.ask(3, 0, 1);
        x.judge(0, true);
        Check.due("its date", x.ofRequest(0, 1), 0);
        Check.due("its place", x.ofRequest(0, 3), 0);
        x.refuse(1);
        Check.passTo(x, 10, 360);
        states(x, "the earlier, and the lower of those", 1, 4, 1, 0);
    }

    private static void quotaAtEachYear() {
        PassageCourt z = five();
        for (int land = 0; land < 2; land++) {
            z.quota(land, 0, 1);
            z.ask(land, land, 0);
            z.ask(land + 1, land, 0);
        }
        Check.passTo(z, 0, 360);
        states(z, "one in each land", 1, 0, 1, 0);
        PassageCourt x = five();
        x.quota(0, 0, 1);
        x.ask(0, 0, 0);
        x.ask(1, 0, 0);
        x.ask(2, 0, 0);
        Check.passTo(x, 0, 719);
        states(x, "one in a year", 1, 0, 0);
        x.pass(1);
        states(x, "two in two", 1, 1, 0);
        x.quota(0, 0, 0);
        Check.passTo(x, 720, 3599);
        x.quota(0, 0, 1);
        states(x, "none more", 1, 1, 0);
        x.pass(1);
        states(x, "the year 10 begins", 1, 1, 1);
        Check.due("its permit", x.permit(2, 0), 3959);
    }

    private static PassageCourt fullOfRequests() {
        PassageCourt x = five();
        for (int i = 0; i < 40; i++) {
            x.withdraw(x.ask(i % 5, i % 2, i % 3));
        }
        return x;
    }

    private static void ask() {
        PassageCourt x = five();
        Check.due("the first", x.ask(0, 0, 0), 0);
        Check.due("another land", x.ask(0, 1, 2), 1);
        Check.due("another person", x.ask(1, 0, 0), 2);
        x.withdraw(0);
        Check.due("that one is over", x.ask(0, 0, 0), 3);
        x.quota(0, 0, 9);
        Check.passTo(x, 0, 360);
        Check.due("that one is granted", x.ask(0, 0, 1), 4);
        Check.due("a second one", x.ask(1, 0, 1), 5);
    }

    private static PassageCourt asked() {
        PassageCourt x = five();
        x.ask(0, 0, 0);
        x.ask(1, 0, 1);
        x.refuse(1);
        x.ask(2, 0, 1);
        x.refuse(2);
        x.appeal(2);
        x.ask(4, 0, 0);
        x.withdraw(3);
        x.join(0, 1);
        x.pass(3);
        return x;
    }

    private static void askWrong() {
        Check.refused("no person", NO_SUCH, ResidenceTest::asked, y -> y.ask(5, 0, 0));
        Check.refused("person -1", NO_SUCH, ResidenceTest::asked, y -> y.ask(-1, 0, 0));
        Check.refused("no land", NO_SUCH, ResidenceTest::asked, y -> y.ask(3, 3, 9));
        Check.refused("land NONE", NO_SUCH, ResidenceTest::asked, y -> y.ask(3, -1, 0));
        Check.refused("type -1", WRONG, ResidenceTest::asked, y -> y.ask(3, 0, -1));
        Check.refused("type 3", WRONG, ResidenceTest::asked, y -> y.ask(0, 0, 3));
        Check.refused("of that nation", STATE, ResidenceTest::asked, y -> y.ask(3, 2, 0));
        Check.refused("has one WAITING", STATE, ResidenceTest::asked, y -> y.ask(0, 0, 1));
        Check.refused("has one REFUSED", STATE, ResidenceTest::asked, y -> y.ask(1, 0, 0));
        Check.refused("has one APPEALED", STATE, ResidenceTest::asked, y -> y.ask(2, 0, 0));
        Check.taken("has one that is OVER", ResidenceTest::asked, y -> y.ask(4, 0, 0));
        Check.taken("has none", ResidenceTest::asked, y -> y.ask(3, 0, 0));
        Check.refused("a 41st", STATE, ResidenceTest::fullOfRequests, y -> y.ask(0, 0, 0));
    }

    private static void join() {
        PassageCourt x = five();
        x.ask(0, 0, 0);
        x.ask(1, 0, 0);
        Check.due("one", x.join(0, 4), 1);
        Check.due("who has one of its own", x.join(0, 1), 2);
        Check.due("three", x.join(0, 2), 3);
        Check.due("of another one too", x.join(1, 4), 1);
        Check.due("three follow", x.ofRequest(0, 2), 3);
        x.quota(0, 0, 1);
        Check.passTo(x, 0, 360);
        Check.due("one place", x.ofRequest(1, 0), PassageCourt.WAITING);
        Check.due("for whom it is", x.permit(0, 0), 719);
        Check.due("who follow", x.permit(1, 0), 719);
        Check.due("who follow", x.permit(2, 0), 719);
        Check.due("who follow", x.permit(4, 0), 719);
        Check.due("who does not", x.permit(3, 0), PassageCourt.NONE);
        Check.due("of that land", x.permit(0, 1), PassageCourt.NONE);

        PassageCourt z = five();
        z.enter(0, 2);
        int child = z.birth(0, 4);
        z.ask(0, 0, 0);
        z.ask(4, 0, 0);
        Check.passTo(z, 0, 100);
        int later = z.birth(0, PassageCourt.NONE);
        Check.due("a child of the mother", z.join(0, child), 1);
        Check.due("a child of the father", z.join(1, child), 1);
        Check.due("one born behind the date", z.join(0, later), 2);
    }

    private static PassageCourt joined() {
        PassageCourt x = asked();
        x.join(0, 2);
        x.join(0, 3);
        return x;
    }

    private static void joinWrong() {
        Check.refused("no request", NO_SUCH, ResidenceTest::asked, y -> y.join(4, 0));
        Check.refused("request -1", NO_SUCH, ResidenceTest::asked, y -> y.join(-1, 0));
        Check.refused("no person", NO_SUCH, ResidenceTest::asked, y -> y.join(1, 5));
        Check.refused("person -1", NO_SUCH, ResidenceTest::asked, y -> y.join(0, -1));
        Check.refused("for whom it is", STATE, ResidenceTest::asked, y -> y.join(0, 0));
        Check.refused("has joined it", STATE, ResidenceTest::asked, y -> y.join(0, 1));
        Check.refused("REFUSED", STATE, ResidenceTest::asked, y -> y.join(1, 3));
        Check.refused("APPEALED", STATE, ResidenceTest::asked, y -> y.join(2, 3));
        Check.refused("OVER", STATE, ResidenceTest::asked, y -> y.join(3, 0));
        Check.refused("3 follow", STATE, ResidenceTest::joined, y -> y.join(0, 4));
    }

    private static void refuseAndAppeal() {
        PassageCourt x = five();
        x.ask(0, 0, 0);
        x.ask(1, 0, 0);
        x.pass(4);
        Check.due("30 days", x.refuse(0), 34);
        x.refuse(1);
        Check.due("refused", x.ofRequest(0, 0), PassageCourt.REFUSED);
        x.pass(30);
        Check.due("still", x.ofRequest(1, 0), PassageCourt.REFUSED);
        Check.due("on the last day, 60 days", x.appeal(0), 94);
        Check.due("appealed", x.ofRequest(0, 0), PassageCourt.APPEALED);
        x.pass(1);
        Check.due("over without an appeal", x.ofRequest(1, 0), PassageCourt.OVER);
        x.pass(59);
        Check.due("still", x.ofRequest(0, 0), PassageCourt.APPEALED);
        x.pass(1);
        Check.due("over without a judgement", x.ofRequest(0, 0), PassageCourt.OVER);
        x.ask(0, 0, 0);
        x.refuse(2);
        x.appeal(2);
        x.judge(2, true);
        x.pass(100);
        Check.due("the clock has ended", x.ofRequest(2, 0), PassageCourt.WAITING);
        Check.due("refused again", x.refuse(2), 225);
    }

    private static void appealWrong() {
        Check.refused("no request", NO_SUCH, ResidenceTest::asked, y -> y.refuse(4));
        Check.refused("request -1", NO_SUCH, ResidenceTest::asked, y -> y.refuse(-1));
        Check.refused("refuse REFUSED", STATE, ResidenceTest::asked, y -> y.refuse(1));
        Check.refused("refuse APPEALED", STATE, ResidenceTest::asked, y -> y.refuse(2));
        Check.refused("refuse OVER", STATE, ResidenceTest::asked, y -> y.refuse(3));
        Check.refused("refuse GRANTED", STATE, ResidenceTest::granted, y -> y.refuse(0));
        Check.refused("no request", NO_SUCH, ResidenceTest::asked, y -> y.appeal(4));
        Check.refused("request -1", NO_SUCH, ResidenceTest::asked, y -> y.appeal(-1));
        Check.refused("appeal WAITING", STATE, ResidenceTest::asked, y -> y.appeal(0));
        Check.refused("appeal APPEALED", STATE, ResidenceTest::asked, y -> y.appeal(2));
        Check.refused("appeal OVER", STATE, ResidenceTest::asked, y -> y.appeal(3));
        Check.refused("appeal GRANTED", STATE, ResidenceTest::granted, y -> y.appeal(0));
    }

    private static void judge() {
        PassageCourt x = asked();
        x.ask(3, 0, 1);
        x.refuse(4);
        x.appeal(4);
        Check.due("good", x.judge(2, true), PassageCourt.WAITING);
        Check.due("waiting again", x.ofRequest(2, 0), PassageCourt.WAITING);
        Check.due("not good", x.judge(4, false), PassageCourt.OVER);
        Check.due("over", x.ofRequest(4, 0), PassageCourt.OVER);
        PassageCourt z = asked();
        z.pass(57);
        Check.due("on the last day", z.judge(2, true), PassageCourt.WAITING);
        Check.due("with its date", z.ofRequest(2, 1), 0);
    }

    private static void judgeWrong() {
        Check.refused("no request", NO_SUCH, ResidenceTest::asked, y -> y.judge(4, true));
        Check.refused("request -1", NO_SUCH, ResidenceTest::asked, y -> y.judge(-1, true));
        Check.refused("judge WAITING", STATE, ResidenceTest::asked, y -> y.judge(0, true));
        Check.refused("judge REFUSED", STATE, ResidenceTest::asked, y -> y.judge(1, false));
        Check.refused("judge OVER", STATE, ResidenceTest::asked, y -> y.judge(3, true));
        Check.refused("judge GRANTED", STATE, ResidenceTest::granted, y -> y.judge(0, false));
    }

    private static void withdraw() {
        PassageCourt x = five();
        x.ask(0, 0, 0);
        x.pass(3);
        x.ask(1, 0, 0);
        Check.due("made today", x.withdraw(1), 0);
        x.pass(4);
        Check.due("made seven days ago", x.withdraw(0), 7);
        Check.due("over", x.ofRequest(0, 0), PassageCourt.OVER);
        Check.refused("no request", NO_SUCH, ResidenceTest::asked, y -> y.withdraw(4));
        Check.refused("request -1", NO_SUCH, ResidenceTest::asked, y -> y.withdraw(-1));
        Check.refused("withdraw REFUSED", STATE, ResidenceTest::asked, y -> y.withdraw(1));
        Check.refused("withdraw APPEALED", STATE, ResidenceTest::asked, y -> y.withdraw(2));
        Check.refused("withdraw OVER", STATE, ResidenceTest::asked, y -> y.withdraw(3));
        Check.refused("withdraw GRANTED", STATE, ResidenceTest::granted, y -> y.withdraw(0));
    }

    /** Person 0 has a permit of land 0 from 360 to 719, and is in it since then. */
    private static PassageCourt granted() {
        PassageCourt x = five();
        x.quota(0, 0, 1);
        x.ask(0, 0, 0);
        Check.passTo(x, 0, 360);
        x.enter(0, 0);
        return x;
    }

    private static void permit() {
        PassageCourt x = five();
        x.quota(0, 0, 1);
        x.ask(0, 0, 0);
        x.slip(0, 0);
        Check.passTo(x, 0, 359);
        Check.due("none yet", x.permit(0, 0), PassageCourt.NONE);
        x.pass(1);
        Check.due("that day with them", x.permit(0, 0), 719);
        Check.due("looked at ahead of the quotas", x.status(0), PassageCourt.OVERSTAYED);
        x.pass(1);
        Check.due("resident on the next day", x.status(0), PassageCourt.RESIDENT);
        Check.passTo(x, 361, 719);
        Check.due("the last day", x.permit(0, 0), 719);
        x.pass(1);
        Check.due("over", x.permit(0, 0), PassageCourt.NONE);
    }

    private static void permitWrong() {
        Check.refused("no person", NO_SUCH, ResidenceTest::granted, y -> y.permit(5, 0));
        Check.refused("person -1", NO_SUCH, ResidenceTest::granted, y -> y.permit(-1, 0));
        Check.refused("no land", NO_SUCH, ResidenceTest::granted, y -> y.permit(0, 3));
        Check.refused("land NONE", NO_SUCH, ResidenceTest::granted, y -> y.permit(0, -1));
    }

    private static PassageCourt there179() {
        PassageCourt x = granted();
        Check.passTo(x, 360, 538);
        return x;
    }

    private static void extend() {
        PassageCourt x = there179();
        x.pass(1);
        Check.due("180 days", x.extend(0, 0), 1079);
        Check.due("until then", x.permit(0, 0), 1079);
        Check.due("and again", x.extend(0, 0), 1439);
        PassageCourt z = granted();
        Check.passTo(z, 360, 539);
        z.leave(0);
        Check.passTo(z, 539, 719);
        Check.due("from abroad, on its last day", z.extend(0, 0), 1079);
        PassageCourt w = granted();
        Check.passTo(w, 360, 539);
        w.extend(0, 0);
        w.leave(0);
        Check.passTo(w, 539, 719);
        Check.due("360 to 539 of 360 to 719", w.extend(0, 0), 1439);
        Check.refused("361 to 539 of 361 to 720", STATE, ResidenceTest::left180, y -> y.extend(0, 0));
    }

    private static PassageCourt left180() {
        PassageCourt x = granted();
        Check.passTo(x, 360, 539);
        x.extend(0, 0);
        x.leave(0);
        Check.passTo(x, 539, 720);
        return x;
    }

    private static PassageCourt movedOn() {
        PassageCourt x = granted();
        Check.passTo(x, 360, 539);
        x.move(0, 1);
        return x;
    }

    private static void extendCountsTheLastLand() {
        Check.refused("moved on: a day less", STATE, ResidenceTest::movedOn, y -> y.extend(0, 0));
        PassageCourt x = movedOn();
        x.move(0, 0);
        Check.due("and back", x.extend(0, 0), 1079);
        PassageCourt z = five();
        z.quota(0, 0, 1);
        z.ask(0, 0, 0);
        Check.passTo(z, 0, 180);
        z.slip(0, 0);
        Check.passTo(z, 180, 360);
        Check.due("180 to 360, as whatever", z.extend(0, 0), 1079);
    }

    private static void extendWrong() {
        Check.refused("no person", NO_SUCH, ResidenceTest::granted, y -> y.extend(5, 0));
        Check.refused("person -1", NO_SUCH, ResidenceTest::granted, y -> y.extend(-1, 0));
        Check.refused("no land", NO_SUCH, ResidenceTest::granted, y -> y.extend(0, 3));
        Check.refused("land NONE", NO_SUCH, ResidenceTest::granted, y -> y.extend(0, -1));
        Check.refused("179 days", STATE, ResidenceTest::there179, y -> y.extend(0, 0));
        Check.refused("no permit", STATE, ResidenceTest::there179, y -> y.extend(1, 0));
        Check.refused("no permit of that land", STATE, ResidenceTest::there179, y -> y.extend(0, 1));
        Check.refused("not valid any more", STATE, ResidenceTest::thereOver, y -> y.extend(0, 0));
    }

    private static PassageCourt thereOver() {
        PassageCourt x = granted();
        Check.passTo(x, 360, 720);
        return x;
    }

    private static void permitGoesOn() {
        PassageCourt x = granted();
        Check.passTo(x, 360, 600);
        x.extend(0, 0);
        x.extend(0, 0);
        x.ask(0, 0, 0);
        Check.passTo(x, 600, 720);
        Check.due("granted", x.ofRequest(1, 0), PassageCourt.GRANTED);
        Check.due("at least so long as it was", x.permit(0, 0), 1439);
        Check.passTo(x, 720, 1000);
        x.extend(0, 0);
        Check.passTo(x, 1000, 1440);
        Check.due("without a break since 360", x.oath(0, 0), 5);
    }

    private static PassageCourt years() {
        PassageCourt x = granted();
        Check.passTo(x, 360, 600);
        x.extend(0, 0);
        x.extend(0, 0);
        x.extend(0, 0);
        x.ask(1, 0, 0);
        Check.passTo(x, 600, 1439);
        return x;
    }

    private static PassageCourt threeYears() {
        PassageCourt x = years();
        x.pass(1);
        return x;
    }

    private static void oath() {
        Check.refused("1079 days", STATE, ResidenceTest::years, y -> y.oath(0, 0));
        PassageCourt x = threeYears();
        Check.due("1080 days", x.oath(0, 0), 5);
        Check.due("its nations", x.about(0, 1), 5);
        Check.due("as it was looked at last", x.status(0), PassageCourt.RESIDENT);
        x.pass(1);
        Check.due("national", x.status(0), PassageCourt.NATIONAL);
    }

    private static PassageCourt brokenOff() {
        PassageCourt x = five();
        x.quota(0, 0, 1);
        x.slip(0, 0);
        x.ask(0, 0, 0);
        Check.passTo(x, 0, 600);
        x.ask(0, 0, 0);
        Check.passTo(x, 600, 720);
        x.extend(0, 0);
        x.extend(0, 0);
        x.extend(0, 0);
        Check.passTo(x, 720, 1799);
        return x;
    }

    private static void oathAfterABreak() {
        PassageCourt x = brokenOff();
        Check.due("valid", x.permit(0, 0), 2159);
        Check.refused("that of 720 is another one", STATE, ResidenceTest::brokenOff, y -> y.oath(0, 0));
        x.pass(1);
        Check.due("1080 days of that", x.oath(0, 0), 5);
    }

    private static PassageCourt elsewhere() {
        PassageCourt x = threeYears();
        x.move(0, 1);
        return x;
    }

    private static PassageCourt abroad() {
        PassageCourt x = threeYears();
        x.leave(0);
        return x;
    }

    private static PassageCourt sworn() {
        PassageCourt x = threeYears();
        x.oath(0, 0);
        return x;
    }

    private static PassageCourt overAgain() {
        PassageCourt x = threeYears();
        Check.passTo(x, 1440, 1800);
        return x;
    }

    private static void oathWrong() {
        Check.refused("no person", NO_SUCH, ResidenceTest::threeYears, y -> y.oath(5, 0));
        Check.refused("person -1", NO_SUCH, ResidenceTest::threeYears, y -> y.oath(-1, 0));
        Check.refused("no land", NO_SUCH, ResidenceTest::threeYears, y -> y.oath(0, 3));
        Check.refused("land NONE", NO_SUCH, ResidenceTest::threeYears, y -> y.oath(0, -1));
        Check.refused("in another land", STATE, ResidenceTest::elsewhere, y -> y.oath(0, 0));
        Check.refused("abroad", STATE, ResidenceTest::abroad, y -> y.oath(0, 0));
        Check.refused("of that nation", STATE, ResidenceTest::sworn, y -> y.oath(0, 0));
        Check.refused("not valid any more", STATE, ResidenceTest::overAgain, y -> y.oath(0, 0));
        Check.refused("of another person", STATE, ResidenceTest::threeYears, y -> y.oath(2, 0));
    }

    private static void ofRequest() {
        PassageCourt x = asked();
        x.ask(3, 0, 0);
        x.ask(3, 1, 0);
        x.ask(4, 0, 0);
        x.ask(4, 1, 1);
        Check.due("its date", x.ofRequest(0, 1), 0);
        Check.due("the date of today", x.ofRequest(4, 1), 3);
        Check.due("one follows", x.ofRequest(0, 2), 1);
        Check.due("nobody follows", x.ofRequest(4, 2), 0);
        Check.due("the first place", x.ofRequest(0, 3), 0);
        Check.due("the second", x.ofRequest(4, 3), 1);
        Check.due("of another land", x.ofRequest(5, 3), 0);
        Check.due("the third", x.ofRequest(6, 3), 2);
        Check.due("of another class", x.ofRequest(7, 3), 0);
        Check.due("REFUSED has none", x.ofRequest(1, 3), PassageCourt.NONE);
        Check.due("APPEALED has none", x.ofRequest(2, 3), PassageCourt.NONE);
        Check.due("OVER has none", x.ofRequest(3, 3), PassageCourt.NONE);
        Check.due("GRANTED has none", granted().ofRequest(0, 3), PassageCourt.NONE);
        x.ask(0, 1, 0);
        x.ask(1, 1, 0);
        Check.due("behind an odd number", x.ofRequest(8, 3), 1);
        Check.due("behind odd and even ones", x.ofRequest(9, 3), 2);
        x.withdraw(0);
        Check.due("one place less", x.ofRequest(6, 3), 1);
        Check.due("followers stay", x.ofRequest(0, 2), 1);
        Check.refused("no request", NO_SUCH, ResidenceTest::asked, y -> y.ofRequest(4, 9));
        Check.refused("request -1", NO_SUCH, ResidenceTest::asked, y -> y.ofRequest(-1, 0));
        Check.refused("what -1", WRONG, ResidenceTest::asked, y -> y.ofRequest(0, -1));
        Check.refused("what 4", WRONG, ResidenceTest::asked, y -> y.ofRequest(0, 4));
    }
}
