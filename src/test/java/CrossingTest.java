/** Promises 9 to 14 and 30: entering, slipping in, moving, leaving, bans and who knows of them. */
public final class CrossingTest {
    private static final Class<?> NO_SUCH = IndexOutOfBoundsException.class;
    private static final Class<?> WRONG = IllegalArgumentException.class;
    private static final Class<?> STATE = IllegalStateException.class;

    public static void main(String[] args) {
        enterInOrderOfReasons();
        enterAsNational();
        enterWithPermit();
        enterWithPermitOfRegion();
        enterWrong();
        slip();
        slipWrong();
        move();
        moveOnOneDay();
        moveWrong();
        leave();
        leaveAfterLong();
        leaveOfStay();
        leaveWrong();
        ban();
        banReplaced();
        banReplacedByLeaving();
        banWrong();
        bannedAndKnown();
        bannedFromOutside();
        lift();
        outsideRegion();
        Check.end();
    }

    /** Lands 0 and 1 of the region, 2 and 3 outside; person 0 is of nation 2, person 1 of none, person 2 of 0. */
    private static PassageCourt four() {
        PassageCourt x = new PassageCourt();
        x.land(true, true, true, 4);
        x.land(true, false, false, 30);
        x.land(false, false, true, 7);
        x.land(false, false, false, 0);
        x.person(2, 30);
        x.person(PassageCourt.NONE, 40);
        x.person(0, 20);
        return x;
    }

    private static PassageCourt inside() {
        PassageCourt x = four();
        x.slip(0, 0);
        x.pass(2);
        x.enter(2, 0);
        x.visa(1, 3, 2, 30, 1, 30);
        x.enter(1, 3);
        return x;
    }

    private static void enterInOrderOfReasons() {
        PassageCourt x = four();
        x.rule(0, 0, 1);
        x.ban(0, 0, 2);
        Check.due("banned, no visa, no days", x.enter(0, 0), 1);
        Check.due("it stays abroad", x.status(0), PassageCourt.ABROAD);
        Check.due("abroad", x.about(0, 0), PassageCourt.NONE);
        Check.due("nowhere today", x.was(0, 0), 0);
        x.pass(2);
        Check.due("no visa, no days", x.enter(0, 0), 2);
        x.visa(0, 0, 2, 9, 1, 1);
        Check.due("no days", x.enter(0, 0), 3);
        Check.due("the visa is not taken", x.ofVisa(0, 0) * 10 + x.ofVisa(0, 1), 11);
        x.rule(2, 1, 2);
        Check.due("today with them", x.enter(0, 0), 0);
        Check.due("taken", x.ofVisa(0, 0) * 10 + x.ofVisa(0, 1), 0);
        Check.due("by it", x.about(0, 3), 0);
        Check.due("there", x.about(0, 0), 0);
        Check.due("today", x.was(0, 2), 3);
    }

    private static void enterAsNational() {
        PassageCourt x = four();
        x.rule(0, 0, 1);
        x.ban(0, 2, 9);
        x.ban(1, 2, 9);
        x.visa(2, 0, 0, 9, 1, 1);
        Check.due("of that nation", x.enter(2, 0), 0);
        Check.due("national", x.status(2), PassageCourt.NATIONAL);
        Check.due("no visa needed", x.about(2, 3), PassageCourt.NONE);
        Check.due("none taken", x.ofVisa(0, 0), 1);
        Check.due("no day counts", x.about(2, 2) + x.daysAnew(2), 0);
        Check.due("not elsewhere", x.reason(2, 1), 1);
    }

    private static PassageCourt granted() {
        PassageCourt x = four();
        x.quota(0, 0, 1);
        x.ask(1, 0, 0);
        x.rule(0, 5, 10);
        Check.passTo(x, 0, 360);
        return x;
    }

    private static void enterWithPermit() {
        PassageCourt x = granted();
        x.visa(1, 0, 360, 999, 1, 90);
        x.ban(1, 1, 720);
        x.rule(360, 0, 1);
        Check.due("resident, though banned and without days", x.enter(1, 0), 0);
        Check.due("resident", x.status(1), PassageCourt.RESIDENT);
        Check.due("no visa", x.about(1, 3), PassageCourt.NONE);
        Check.passTo(x, 360, 719);
        Check.due("until its last day", x.status(1), PassageCourt.RESIDENT);
        Check.due("no day counted", x.about(1, 2), 0);
        x.pass(1);
        Check.due("no permit any more", x.status(1), PassageCourt.OVERSTAYED);
        Check.due("one day in one", x.about(1, 2), 1);
    }

    private static void enterWithPermitOfRegion() {
        PassageCourt x = granted();
        Check.due("free of visas in the region", x.reason(1, 1), 0);
        Check.due("not outside", x.reason(1, 3), 2);
        x.visa(1, 1, 360, 999, 1, 90);
        Check.due("in", x.enter(1, 1), 0);
        Check.due("a visitor there", x.status(1), PassageCourt.VISITOR);
        Check.due("no visa was needed", x.ofVisa(0, 0), 1);
        x.pass(4);
        Check.due("days count", x.about(1, 2), 5);
        x.pass(1);
        Check.due("of those one has only so many", x.status(1), PassageCourt.OVERSTAYED);
        Check.due("home again", x.move(1, 0), PassageCourt.RESIDENT);
        Check.due("this day does not count then", x.about(1, 2), 5);
        x.leave(1);
        x.ban(0, 1, 9);
        Check.due("banned where one is free of visas", x.enter(1, 1), 1);
        Check.due("never at home", x.enter(1, 0), 0);

        PassageCourt w = four();
        w.quota(1, 0, 1);
        w.ask(1, 1, 0);
        Check.passTo(w, 0, 360);
        Check.due("a permit of any land of the region", w.reason(1, 0), 0);

        PassageCourt z = four();
        z.quota(2, 0, 1);
        z.ask(1, 2, 0);
        Check.passTo(z, 0, 360);
        Check.due("a permit of a land outside", z.enter(1, 0), 2);
        Check.due("does there", z.enter(1, 2), 0);
        z.leave(1);
        Check.due("not in another one outside", z.enter(1, 3), 2);
    }

    private static void enterWrong() {
        Check.refused("no person", NO_SUCH, CrossingTest::inside, y -> y.enter(3, 0));
        Check.refused("person -1", NO_SUCH, CrossingTest::inside, y -> y.enter(-1, 0));
        Check.refused("no land", NO_SUCH, CrossingTest::inside, y -> y.enter(0, 4));
        Check.refused("land NONE", NO_SUCH, CrossingTest::inside, y -> y.enter(0, -1));
        Check.refused("there already", STATE, CrossingTest::inside, y -> y.enter(0, 0));
        Check.refused("in another land", STATE, CrossingTest::inside, y -> y.enter(2, 2));
    }

    private static void slip() {
        PassageCourt x = four();
        x.waive(0, 2, true);
        x.visa(1, 0, 0, 9, 1, 9);
        Check.due("a visitor does not slip in", x.slip(0, 0), PassageCourt.OVERSTAYED);
        Check.due("nor with a visa", x.slip(1, 0), PassageCourt.OVERSTAYED);
        Check.due("no visa taken", x.ofVisa(0, 0), 1);
        Check.due("no visa by which it came", x.about(1, 3), PassageCourt.NONE);
        Check.due("a national may", x.slip(2, 0), PassageCourt.NATIONAL);
        Check.due("it counts", x.about(0, 2), 1);
        x.pass(1);
        Check.due("nor on the next day", x.status(0), PassageCourt.OVERSTAYED);
        Check.due("two days", x.about(0, 4), 2);
        x.leave(0);
        x.lift(0, 0);
        x.pass(1);
        Check.due("who is asked then has not slipped in", x.enter(0, 0), 0);
        Check.due("a visitor", x.status(0), PassageCourt.VISITOR);

        PassageCourt z = granted();
        Check.due("a resident may", z.slip(1, 0), PassageCourt.RESIDENT);
        Check.passTo(z, 360, 720);
        Check.due("but slipped in", z.status(1), PassageCourt.OVERSTAYED);
    }

    private static void slipWrong() {
        Check.refused("no person", NO_SUCH, CrossingTest::inside, y -> y.slip(3, 0));
        Check.refused("person -1", NO_SUCH, CrossingTest::inside, y -> y.slip(-1, 0));
        Check.refused("no land", NO_SUCH, CrossingTest::inside, y -> y.slip(0, 4));
        Check.refused("land NONE", NO_SUCH, CrossingTest::inside, y -> y.slip(0, -1));
        Check.refused("in a land", STATE, CrossingTest::inside, y -> y.slip(0, 1));
    }

    private static void move() {
        PassageCourt x = four();
        x.waive(0, 2, true);
        x.waive(1, 2, true);
        x.enter(0, 0);
        x.pass(1);
        Check.due("moved", x.move(0, 1), PassageCourt.VISITOR);
        Check.due("there", x.about(0, 0), 1);
        Check.due("the last land of the day", x.was(0, 1), 13);
        Check.due("the land of the day before", x.was(0, 0), 3);
        Check.due("a day is one day", x.about(0, 2), 2);
        Check.due("back", x.move(0, 0), PassageCourt.VISITOR);
        x.leave(0);
        x.slip(0, 0);
        Check.due("slipped in still", x.move(0, 1), PassageCourt.OVERSTAYED);
        x.pass(1);
        Check.due("and on the next day", x.status(0), PassageCourt.OVERSTAYED);
        Check.due("of this stay", x.about(0, 4), 2);
        x.enter(2, 0);
        Check.due("nothing is asked", x.move(2, 1), PassageCourt.OVERSTAYED);
        Check.due("national at home", x.move(2, 0), PassageCourt.NATIONAL);
        x.ban(1, 2, 9);
        Check.due("nor of bans", x.move(2, 1), PassageCourt.OVERSTAYED);
    }

    private static void moveOnOneDay() {
        PassageCourt x = four();
        x.waive(0, 2, true);
        x.enter(0, 0);
        Check.due("not waived there", x.move(0, 1), PassageCourt.OVERSTAYED);
        Check.due("overstayed today", x.about(0, 4), 1);
        Check.due("waived again", x.move(0, 0), PassageCourt.VISITOR);
        Check.due("the last look of the day stands", x.about(0, 4), 0);
        Check.due("so nobody bans", x.leave(0), PassageCourt.NONE);
    }

    private static void moveWrong() {
        Check.refused("no person", NO_SUCH, CrossingTest::inside, y -> y.move(3, 0));
        Check.refused("person -1", NO_SUCH, CrossingTest::inside, y -> y.move(-1, 0));
        Check.refused("no land", NO_SUCH, CrossingTest::inside, y -> y.move(0, 4));
        Check.refused("land NONE", NO_SUCH, CrossingTest::inside, y -> y.move(0, -1));
        Check.refused("the same land", STATE, CrossingTest::inside, y -> y.move(0, 0));
        Check.refused("out of the region", STATE, CrossingTest::inside, y -> y.move(0, 2));
        Check.refused("into the region", STATE, CrossingTest::inside, y -> y.move(1, 0));
        Check.refused("outside", STATE, CrossingTest::inside, y -> y.move(1, 2));
        Check.refused("from abroad", STATE, CrossingTest::four, y -> y.move(0, 0));
        Check.taken("in the region", CrossingTest::inside, y -> y.move(0, 1));
    }

    private static void leave() {
        PassageCourt x = four();
        x.pass(3);
        x.slip(1, 1);
        Check.due("one day: ten days from tomorrow", x.leave(1), 13);
        Check.due("abroad", x.status(1), PassageCourt.ABROAD);
        Check.due("in no land", x.about(1, 0), PassageCourt.NONE);
        Check.due("of no stay", x.about(1, 4), 0);
        Check.due("there on that day", x.was(1, 3), 14);
        Check.due("the day counts", x.about(1, 2), 1);
        Check.due("known on the day of leaving", x.banned(1, 1, 1), 13);
        Check.due("not yet banned on it", x.reason(1, 0), 2);
        x.pass(1);
        Check.due("banned from the next day on", x.reason(1, 0), 1);
        Check.due("nowhere on that", x.was(1, 4), 0);
        Check.passTo(x, 4, 13);
        Check.due("the last day", x.reason(1, 0), 1);
        x.pass(1);
        Check.due("over", x.reason(1, 0), 2);
        Check.due("over", x.banned(1, 1, 1), PassageCourt.NONE);
        x.enter(2, 0);
        Check.due("never overstayed", x.leave(2), PassageCourt.NONE);
        x.ban(0, 2, 9);
        x.enter(2, 0);
        Check.due("another ban is not told", x.leave(2), PassageCourt.NONE);
    }

    private static void leaveAfterLong() {
        PassageCourt x = four();
        x.slip(1, 0);
        x.slip(0, 0);
        x.pass(70);
        Check.due("71 days", x.about(1, 4), 71);
        Check.due("ten times as many", x.leave(1), 780);
        x.pass(1);
        Check.due("72 days", x.leave(0), 71 + 720);
        x.slip(0, 0);
        x.pass(100);
        Check.due("at most 720", x.leave(0), 171 + 720);
    }

    private static void leaveOfStay() {
        PassageCourt x = four();
        x.slip(1, 0);
        x.pass(2);
        Check.due("three days", x.leave(1), 32);
        x.slip(1, 1);
        Check.due("of another stay, the same day", x.about(1, 4), 1);
        x.pass(1);
        x.move(1, 0);
        Check.due("both lands", x.about(1, 4), 2);
        x.move(1, 1);
        Check.due("the land out of which one goes", x.leave(1), 23);
        Check.due("the other one stands", x.banned(0, 1, 0), 32);
        x.slip(1, 0);
        Check.due("the later end stands", x.leave(1), 32);
    }

    private static void leaveWrong() {
        Check.refused("no person", NO_SUCH, CrossingTest::inside, y -> y.leave(3));
        Check.refused("person -1", NO_SUCH, CrossingTest::inside, y -> y.leave(-1));
        Check.refused("abroad", STATE, CrossingTest::four, y -> y.leave(0));
    }

    private static void ban() {
        PassageCourt x = four();
        x.waive(0, 2, true);
        x.pass(5);
        Check.due("from today on", x.ban(0, 0, 1), 5);
        Check.due("banned today", x.reason(0, 0), 1);
        x.pass(1);
        Check.due("over", x.reason(0, 0), 0);
        Check.due("at most", x.ban(0, 0, 720), 725);
        Check.due("others are not banned", x.banned(0, 1, 0), PassageCourt.NONE);
        Check.due("by others neither", x.banned(1, 0, 1), PassageCourt.NONE);
        x.leave(x.birth(stay(x, 2, 0), PassageCourt.NONE));
        x.pass(1);
        x.waive(1, 0, true);
        x.enter(2, 0);
        x.ban(0, 2, 9);
        Check.due("one who is in a land stays", x.status(2), PassageCourt.NATIONAL);
        x.pass(1);
        Check.due("and there", x.status(2), PassageCourt.NATIONAL);
    }

    private static int stay(PassageCourt x, int person, int land) {
        x.enter(person, land);
        int child = x.birth(person, PassageCourt.NONE);
        x.leave(person);
        return child;
    }

    private static void banReplaced() {
        PassageCourt x = four();
        Check.due("known in land 2 from 7 on", x.ban(0, 0, 20), 19);
        x.pass(7);
        Check.due("heard", x.banned(0, 0, 2), 19);
        Check.due("one that ends earlier", x.ban(0, 0, 12), 19);
        Check.due("is gone", x.banned(0, 0, 2), 19);
        Check.due("a like one", x.ban(0, 0, 13), 19);
        Check.due("the one ahead stands", x.banned(0, 0, 2), 19);
        Check.due("one that ends later", x.ban(0, 0, 14), 20);
        Check.due("stands alone: not heard", x.banned(0, 0, 2), PassageCourt.NONE);
        Check.due("in the region at once", x.banned(0, 0, 1), 20);
        x.pass(7);
        Check.due("heard", x.banned(0, 0, 2), 20);
    }

    private static void banReplacedByLeaving() {
        PassageCourt x = four();
        x.slip(1, 0);
        x.ban(0, 1, 5);
        Check.due("banned today", x.reason(1, 1), 1);
        Check.due("the later end", x.leave(1), 10);
        Check.due("it begins tomorrow", x.reason(1, 1), 2);
        x.pass(1);
        Check.due("now", x.reason(1, 1), 1);
        PassageCourt z = four();
        z.slip(1, 0);
        z.ban(0, 1, 11);
        Check.due("alike", z.leave(1), 10);
        Check.due("the one ahead holds today", z.reason(1, 1), 1);
    }

    private static void banWrong() {
        Check.refused("no land", NO_SUCH, CrossingTest::inside, y -> y.ban(4, 0, 1));
        Check.refused("land -1", NO_SUCH, CrossingTest::inside, y -> y.ban(-1, 0, 1));
        Check.refused("no person", NO_SUCH, CrossingTest::inside, y -> y.ban(0, 3, 0));
        Check.refused("person -1", NO_SUCH, CrossingTest::inside, y -> y.ban(0, -1, 1));
        Check.refused("days 0", WRONG, CrossingTest::inside, y -> y.ban(0, 0, 0));
        Check.refused("days 721", WRONG, CrossingTest::inside, y -> y.ban(0, 0, 721));
    }

    private static void bannedAndKnown() {
        PassageCourt x = four();
        x.waive(2, 1, true);
        x.nation(0, 2, false);
        x.nation(0, 1, true);
        x.ban(0, 0, 7);
        Check.due("the maker", x.banned(0, 0, 0), 6);
        Check.due("the region at once, however late", x.banned(0, 0, 1), 6);
        Check.due("outside late", x.banned(0, 0, 2), PassageCourt.NONE);
        Check.due("outside at once", x.banned(0, 0, 3), 6);
        Check.due("not known: may", x.reason(0, 2), 0);
        x.pass(6);
        Check.due("not known when it ends", x.banned(0, 0, 2), PassageCourt.NONE);
        x.ban(0, 0, 8);
        x.pass(6);
        Check.due("a day early", x.reason(0, 2), 0);
        x.pass(1);
        Check.due("known seven days late", x.banned(0, 0, 2), 13);
        Check.due("may not", x.reason(0, 2), 1);
        x.pass(1);
        Check.due("over", x.banned(0, 0, 0), PassageCourt.NONE);
        Check.refused("no maker", NO_SUCH, CrossingTest::inside, y -> y.banned(4, 0, 0));
        Check.refused("maker -1", NO_SUCH, CrossingTest::inside, y -> y.banned(-1, 0, 0));
        Check.refused("no person", NO_SUCH, CrossingTest::inside, y -> y.banned(0, 3, 0));
        Check.refused("person -1", NO_SUCH, CrossingTest::inside, y -> y.banned(0, -1, 0));
        Check.refused("no knower", NO_SUCH, CrossingTest::inside, y -> y.banned(0, 0, 4));
        Check.refused("knower -1", NO_SUCH, CrossingTest::inside, y -> y.banned(0, 0, -1));
    }

    private static void bannedFromOutside() {
        PassageCourt x = four();
        x.ban(2, 1, 100);
        Check.due("the maker, though it hears late", x.banned(2, 1, 2), 99);
        Check.due("outside at once", x.banned(2, 1, 3), 99);
        Check.due("the region hears late too", x.banned(2, 1, 0), PassageCourt.NONE);
        x.pass(4);
        Check.due("land 0 hears", x.banned(2, 1, 0), 99);
        Check.due("land 1 not yet", x.banned(2, 1, 1), PassageCourt.NONE);
        x.pass(25);
        Check.due("land 1 not yet", x.reason(1, 1), 2);
        x.pass(1);
        Check.due("land 1 hears", x.reason(1, 1), 1);
    }

    private static void lift() {
        PassageCourt x = four();
        Check.due("no ban", x.lift(0, 1), false);
        x.ban(0, 1, 3);
        x.ban(1, 1, 3);
        x.pass(2);
        Check.due("lifted on its last day", x.lift(0, 1), true);
        Check.due("gone", x.banned(0, 1, 0), PassageCourt.NONE);
        Check.due("gone for all", x.banned(0, 1, 3), PassageCourt.NONE);
        Check.due("not that of the other", x.banned(1, 1, 0), 2);
        Check.due("once", x.lift(0, 1), false);
        x.pass(1);
        Check.due("over", x.lift(1, 1), false);
        x.slip(1, 0);
        x.leave(1);
        Check.due("one that begins tomorrow", x.lift(0, 1), true);
        Check.due("an earlier end after a lift", x.ban(0, 1, 1), 3);
        Check.refused("no land", NO_SUCH, CrossingTest::inside, y -> y.lift(4, 0));
        Check.refused("land -1", NO_SUCH, CrossingTest::inside, y -> y.lift(-1, 0));
        Check.refused("no person", NO_SUCH, CrossingTest::inside, y -> y.lift(0, 3));
        Check.refused("person -1", NO_SUCH, CrossingTest::inside, y -> y.lift(0, -1));
    }

    private static void outsideRegion() {
        PassageCourt x = four();
        x.rule(0, 0, 1);
        x.waive(3, 2, true);
        Check.due("no rule of the region", x.enter(0, 3), 0);
        x.pass(59);
        Check.due("the 60th day", x.status(0), PassageCourt.VISITOR);
        Check.due("no day counts", x.about(0, 2), 0);
        x.pass(1);
        Check.due("the 61st", x.status(0), PassageCourt.OVERSTAYED);
        Check.due("nor now", x.about(0, 2) + x.daysAnew(0), 0);
        Check.due("one day", x.leave(0), 70);
        x.lift(3, 0);
        Check.due("another stay", x.enter(0, 3), 0);
        x.pass(59);
        Check.due("60 days anew", x.status(0), PassageCourt.VISITOR);
        Check.due("not a day", x.leave(0), PassageCourt.NONE);

        PassageCourt z = four();
        z.waive(0, 2, true);
        z.waive(3, 2, true);
        z.enter(0, 0);
        z.leave(0);
        Check.due("a day in the region", z.about(0, 2), 1);
        z.enter(0, 3);
        Check.due("by its last look it was outside", z.about(0, 2), 0);
        Check.due("anew", z.daysAnew(0), 0);
        Check.due("outside", z.was(0, 0), 33);
    }
}
