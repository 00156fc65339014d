/** Each parameter of promises 2 to 33: the first and the last value that is allowed, and those beside them. */
public final class RangesTest {
    private static final Class<?> NO_SUCH = IndexOutOfBoundsException.class;
    private static final Class<?> WRONG = IllegalArgumentException.class;

    public static void main(String[] args) {
        landsRulesPersons();
        births();
        visas();
        crossing();
        bans();
        requests();
        permits();
        days();
        whatThereIs();
        whatThereIsOfVisasAndRequests();
        whereAllIsFull();
        whereThereIsNothing();
        Check.end();
    }

    private static void landsRulesPersons() {
        Check.range("land, late", WRONG, Scene::lands, 0, 30, (x, n) -> x.land(true, true, true, n));
        Check.range("waive, land", NO_SUCH, Scene::abroad, 0, 3, (x, n) -> x.waive(n, 1, true));
        Check.range("waive, nation", NO_SUCH, Scene::abroad, 0, 3, (x, n) -> x.waive(1, n, true));
        Check.range("rule, day", WRONG, Scene::abroad, 10, 3600, (x, n) -> x.rule(n, 1, 1));
        Check.range("rule, most", WRONG, Scene::abroad, 0, 180, (x, n) -> x.rule(10, n, 1));
        Check.range("rule, window", WRONG, Scene::abroad, 1, 360, (x, n) -> x.rule(10, 1, n));
        Check.range("person, nation", NO_SUCH, Scene::abroad, -1, 3, (x, n) -> x.person(n, 1));
        Check.range("person, age", WRONG, Scene::abroad, 0, 99, (x, n) -> x.person(0, n));
        Check.range("nation, person", NO_SUCH, Scene::abroad, 0, 4, (x, n) -> x.nation(n, 1, true));
        Check.range("nation, nation", NO_SUCH, Scene::abroad, 0, 3, (x, n) -> x.nation(0, n, true));
        Check.range("nation, not any more", NO_SUCH, Scene::abroad, 0, 3, (x, n) -> x.nation(2, n, false));
    }

    private static void births() {
        Check.range("birth, mother", NO_SUCH, Scene::inside, 0, 4, (x, n) -> x.birth(n, 2));
        Check.range("birth, father", NO_SUCH, Scene::inside, -1, 4, (x, n) -> x.birth(1, n));
    }

    private static void visas() {
        Check.range("visa, person", NO_SUCH, Scene::abroad, 0, 4, (x, n) -> x.visa(n, 0, 10, 20, 1, 1));
        Check.range("visa, land", NO_SUCH, Scene::abroad, 0, 3, (x, n) -> x.visa(0, n, 10, 20, 1, 1));
        Check.range("visa, first", WRONG, Scene::abroad, 10, 3600, (x, n) -> x.visa(0, 0, n, 3600, 1, 1));
        Check.range("visa, first up to last", WRONG, Scene::abroad, 10, 20, (x, n) -> x.visa(0, 0, n, 20, 1, 1));
        Check.range("visa, last", WRONG, Scene::abroad, 20, 3600, (x, n) -> x.visa(0, 0, 20, n, 1, 1));
        Check.range("visa, entries", WRONG, Scene::abroad, 1, 9, (x, n) -> x.visa(0, 0, 10, 20, n, 1));
        Check.range("visa, days", WRONG, Scene::abroad, 1, 90, (x, n) -> x.visa(0, 0, 10, 20, 1, n));
    }

    private static void crossing() {
        Check.range("enter, person", NO_SUCH, Scene::abroad, 0, 4, (x, n) -> x.enter(n, 0));
        Check.range("enter, land", NO_SUCH, Scene::abroad, 0, 3, (x, n) -> x.enter(0, n));
        Check.range("slip, person", NO_SUCH, Scene::abroad, 0, 4, (x, n) -> x.slip(n, 0));
        Check.range("slip, land", NO_SUCH, Scene::abroad, 0, 3, (x, n) -> x.slip(0, n));
        Check.range("move, person", NO_SUCH, Scene::region, 0, 4, (x, n) -> x.move(n, 0));
        Check.range("move, land", NO_SUCH, Scene::region, 0, 3, (x, n) -> x.move(0, n));
        Check.range("leave, person", NO_SUCH, Scene::inside, 0, 4, (x, n) -> x.leave(n));
    }

    private static void bans() {
        Check.range("ban, land", NO_SUCH, Scene::inside, 0, 3, (x, n) -> x.ban(n, 0, 1));
        Check.range("ban, person", NO_SUCH, Scene::inside, 0, 4, (x, n) -> x.ban(0, n, 1));
        Check.range("ban, days", WRONG, Scene::inside, 1, 720, (x, n) -> x.ban(0, 0, n));
        Check.range("lift, land", NO_SUCH, Scene::inside, 0, 3, (x, n) -> x.lift(n, 4));
        Check.range("lift, person", NO_SUCH, Scene::inside, 0, 4, (x, n) -> x.lift(2, n));
        Check.range("banned, land", NO_SUCH, Scene::inside, 0, 3, (x, n) -> x.banned(n, 4, 0));
        Check.range("banned, person", NO_SUCH, Scene::inside, 0, 4, (x, n) -> x.banned(2, n, 0));
        Check.range("banned, knows", NO_SUCH, Scene::inside, 0, 3, (x, n) -> x.banned(2, 4, n));
    }

    private static void requests() {
        Check.range("quota, land", NO_SUCH, Scene::abroad, 0, 3, (x, n) -> x.quota(n, 0, 1));
        Check.range("quota, type", WRONG, Scene::abroad, 0, 2, (x, n) -> x.quota(0, n, 1));
        Check.range("quota, quota", WRONG, Scene::abroad, 0, 9, (x, n) -> x.quota(0, 0, n));
        Check.range("ask, person", NO_SUCH, Scene::abroad, 0, 4, (x, n) -> x.ask(n, 1, 0));
        Check.range("ask, land", NO_SUCH, Scene::abroad, 0, 3, (x, n) -> x.ask(4, n, 0));
        Check.range("ask, type", WRONG, Scene::abroad, 0, 2, (x, n) -> x.ask(0, 1, n));
        Check.range("join, person", NO_SUCH, RangesTest::ofPersonTwo, 0, 4, (x, n) -> x.join(4, n));
        for (int farAway : new int[] {-1, 4, Integer.MIN_VALUE, Integer.MAX_VALUE}) {
            Check.refused("join " + farAway, NO_SUCH, Scene::abroad, x -> x.join(farAway, 2));
            Check.refused("refuse " + farAway, NO_SUCH, Scene::abroad, x -> x.refuse(farAway));
            Check.refused("appeal " + farAway, NO_SUCH, Scene::abroad, x -> x.appeal(farAway));
            Check.refused("judge " + farAway, NO_SUCH, Scene::abroad, x -> x.judge(farAway, true));
            Check.refused("judge not good " + farAway, NO_SUCH, Scene::abroad, x -> x.judge(farAway, false));
            Check.refused("withdraw " + farAway, NO_SUCH, Scene::abroad, x -> x.withdraw(farAway));
        }
        Check.taken("join the first", Scene::abroad, x -> x.join(0, 2));
        Check.taken("refuse the first", Scene::abroad, x -> x.refuse(0));
        Check.taken("refuse the last", RangesTest::ofPersonTwo, x -> x.refuse(4));
        Check.taken("withdraw the first", Scene::abroad, x -> x.withdraw(0));
        Check.taken("withdraw the last", RangesTest::ofPersonTwo, x -> x.withdraw(4));
        Check.taken("appeal against the first", Scene::abroad, x -> { x.refuse(0); x.appeal(0); });
        Check.taken("judge the first", Scene::abroad, x -> { x.refuse(0); x.appeal(0); x.judge(0, false); });
        Check.taken("judge the last", RangesTest::ofPersonTwo, x -> { x.refuse(4); x.appeal(4); x.judge(4, false); });
    }

    /** Request 4, the last one, is for person 2, and waits. */
    private static PassageCourt ofPersonTwo() {
        PassageCourt x = Scene.abroad();
        x.ask(2, 1, 0);
        return x;
    }

    private static void permits() {
        for (int farAway : new int[] {-1, 5, Integer.MIN_VALUE, Integer.MAX_VALUE}) {
            Check.refused("extend, person " + farAway, NO_SUCH, Scene::granted, x -> x.extend(farAway, 0));
            Check.refused("oath, person " + farAway, NO_SUCH, Scene::threeYears, x -> x.oath(farAway, 0));
            Check.refused("permit, person " + farAway, NO_SUCH, Scene::granted, x -> x.permit(farAway, 0));
        }
        for (int farAway : new int[] {-1, 4, Integer.MIN_VALUE, Integer.MAX_VALUE}) {
            Check.refused("extend, land " + farAway, NO_SUCH, Scene::granted, x -> x.extend(0, farAway));
            Check.refused("oath, land " + farAway, NO_SUCH, Scene::threeYears, x -> x.oath(0, farAway));
            Check.refused("permit, land " + farAway, NO_SUCH, Scene::granted, x -> x.permit(0, farAway));
        }
        Check.taken("extend the first", Scene::granted, x -> x.extend(0, 0));
        Check.taken("oath of the first", Scene::threeYears, x -> x.oath(0, 0));
        Check.taken("permit of the first", Scene::granted, x -> x.permit(0, 0));
        Check.taken("permit of the last", Scene::granted, x -> x.permit(4, 3));
        Check.taken("the last person and land", RangesTest::lastOfTwo, x -> { x.extend(1, 1); x.oath(1, 1); });
    }

    /** Person 1 and land 1 are the last ones: it is there on the day 1440, with a permit from 360 to 1799. */
    private static PassageCourt lastOfTwo() {
        PassageCourt x = new PassageCourt();
        x.land(true, false, false, 0);
        x.land(true, false, false, 0);
        x.person(0, 1);
        x.person(0, 1);
        x.quota(1, 0, 1);
        x.ask(1, 1, 0);
        x.slip(1, 1);
        Check.passTo(x, 0, 360);
        for (int i = 0; i < 3; i++) {
            x.extend(1, 1);
        }
        Check.passTo(x, 360, 1440);
        return x;
    }

    private static void days() {
        Check.range("pass, days", WRONG, Scene::inside, 1, 100, (x, n) -> x.pass(n));
    }

    private static void whatThereIs() {
        Check.range("status, person", NO_SUCH, Scene::inside, 0, 4, (x, n) -> x.status(n));
        Check.range("about, person", NO_SUCH, Scene::inside, 0, 4, (x, n) -> x.about(n, 0));
        Check.range("about, what", WRONG, Scene::inside, 0, 4, (x, n) -> x.about(0, n));
        Check.range("daysAnew, person", NO_SUCH, Scene::inside, 0, 4, (x, n) -> x.daysAnew(n));
        Check.range("was, person", NO_SUCH, Scene::inside, 0, 4, (x, n) -> x.was(n, 0));
        Check.range("was, day 0 to today", WRONG, Scene::inside, 0, 12, (x, n) -> x.was(0, n));
        Check.range("was, on the day 0", WRONG, Scene::five, 0, 0, (x, n) -> x.was(0, n));
        Check.range("was, on the last day", WRONG, RangesTest::atTheEnd, 0, 3600, (x, n) -> x.was(0, n));
        Check.range("reason, person", NO_SUCH, Scene::inside, 0, 4, (x, n) -> x.reason(n, 0));
        Check.range("reason, land", NO_SUCH, Scene::inside, 0, 3, (x, n) -> x.reason(0, n));
    }

    private static PassageCourt atTheEnd() {
        return Scene.onDay(3600);
    }

    private static void whatThereIsOfVisasAndRequests() {
        Check.range("ofVisa, visa", NO_SUCH, Scene::inside, 0, 2, (x, n) -> x.ofVisa(n, 0));
        Check.range("ofVisa, what", WRONG, Scene::inside, 0, 2, (x, n) -> x.ofVisa(0, n));
        Check.range("ofRequest, request", NO_SUCH, Scene::inside, 0, 3, (x, n) -> x.ofRequest(n, 3));
        Check.range("ofRequest, what", WRONG, Scene::inside, 0, 3, (x, n) -> x.ofRequest(0, n));
    }

    private static void whereAllIsFull() {
        Check.range("16 persons", NO_SUCH, Scene::full, 0, 15, (x, n) -> x.status(n));
        Check.range("8 lands", NO_SUCH, Scene::full, 0, 7, (x, n) -> x.reason(0, n));
        Check.range("60 visas", NO_SUCH, Scene::full, 0, 59, (x, n) -> x.ofVisa(n, 0));
        Check.range("40 requests", NO_SUCH, Scene::full, 0, 39, (x, n) -> x.ofRequest(n, 0));
    }

    private static void whereThereIsNothing() {
        for (int number : new int[] {-1, 0, 1}) {
            Check.refused("no land " + number, NO_SUCH, Scene::empty, x -> x.quota(number, 0, 0));
            Check.refused("no nation " + number, NO_SUCH, Scene::empty, x -> x.waive(number, number, true));
            Check.refused("no person " + number, NO_SUCH, Scene::lands, x -> x.status(number));
            Check.refused("nobody to be banned " + number, NO_SUCH, Scene::lands, x -> x.ban(0, number, 1));
            Check.refused("no visa " + number, NO_SUCH, Scene::five, x -> x.ofVisa(number, 0));
            Check.refused("no request " + number, NO_SUCH, Scene::five, x -> x.ofRequest(number, 0));
        }
        Check.refused("no land for a person", NO_SUCH, Scene::empty, x -> x.person(0, 0));
        Check.taken("a stateless person needs none", Scene::empty, x -> x.person(PassageCourt.NONE, 0));
    }
}
