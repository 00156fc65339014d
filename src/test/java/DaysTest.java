/** Promises 24 to 29 and 31: days that pass, and what there is to be seen of persons and visas. */
public final class DaysTest {
    private static final Class<?> NO_SUCH = IndexOutOfBoundsException.class;
    private static final Class<?> WRONG = IllegalArgumentException.class;
    private static final Class<?> STATE = IllegalStateException.class;

    public static void main(String[] args) {
        pass();
        passWrong();
        status();
        about();
        aboutWrong();
        days();
        daysOfOneWhoComesAndGoes();
        daysAtTheStart();
        was();
        wasWrong();
        reason();
        reasonWithVisas();
        ofVisa();
        Check.end();
    }

    /** Lands 0 and 1 of the region, 2 outside; person 0 of nation 2, waived by all; person 1 of nation 0; person 2 of none. */
    private static PassageCourt three() {
        PassageCourt x = new PassageCourt();
        x.land(true, false, false, 0);
        x.land(true, false, false, 0);
        x.land(false, false, false, 0);
        x.land(false, false, false, 0);
        x.waive(0, 2, true);
        x.waive(1, 2, true);
        x.waive(3, 2, true);
        x.person(2, 30);
        x.person(0, 30);
        x.person(PassageCourt.NONE, 30);
        return x;
    }

    private static PassageCourt day4() {
        PassageCourt x = three();
        x.pass(1);
        x.enter(0, 0);
        x.enter(1, 0);
        x.slip(2, 0);
        x.visa(2, 1, 3, 9, 2, 5);
        x.pass(3);
        return x;
    }

    private static PassageCourt atTheEnd() {
        PassageCourt x = day4();
        for (int i = 0; i < 35; i++) {
            x.pass(100);
        }
        x.pass(95);
        return x;
    }

    private static void pass() {
        PassageCourt x = three();
        Check.due("one day", x.pass(1), 1);
        Check.due("a hundred", x.pass(100), 101);
        PassageCourt z = atTheEnd();
        Check.due("the last day", z.pass(1), 3600);
        Check.due("on the last day there is a status", z.status(0), PassageCourt.OVERSTAYED);
        Check.due("and a record", z.was(0, 3600), 4);
        Check.due("90 as a visitor, 3510 not any more", z.about(0, 4), 3510);
        both(z, 0, "all days of the window", 180);
    }

    private static void passWrong() {
        Check.refused("0 days", WRONG, DaysTest::day4, y -> y.pass(0));
        Check.refused("-1 days", WRONG, DaysTest::day4, y -> y.pass(-1));
        Check.refused("101 days", WRONG, DaysTest::atTheEnd, y -> y.pass(101));
        Check.refused("the most of days", WRONG, DaysTest::day4, y -> y.pass(Integer.MAX_VALUE));
        Check.refused("above 3600", STATE, DaysTest::atTheEnd, y -> y.pass(2));
        Check.refused("far above 3600", STATE, DaysTest::atTheEnd, y -> y.pass(100));
    }

    private static void status() {
        PassageCourt x = day4();
        Check.due("visitor", x.status(0), PassageCourt.VISITOR);
        Check.due("national", x.status(1), PassageCourt.NATIONAL);
        Check.due("overstayed", x.status(2), PassageCourt.OVERSTAYED);
        x.leave(0);
        Check.due("abroad", x.status(0), PassageCourt.ABROAD);
        x.nation(2, 0, true);
        Check.due("not looked at since", x.status(2), PassageCourt.OVERSTAYED);
        x.pass(1);
        Check.due("looked at", x.status(2), PassageCourt.NATIONAL);
        Check.refused("no person", NO_SUCH, DaysTest::day4, y -> y.status(3));
        Check.refused("person -1", NO_SUCH, DaysTest::day4, y -> y.status(-1));
    }

    private static void about() {
        PassageCourt x = day4();
        x.move(0, 1);
        Check.due("in a land", x.about(0, 0), 1);
        Check.due("its nations", x.about(0, 1), 4);
        Check.due("days that count", x.about(0, 2), 4);
        Check.due("no visa", x.about(0, 3), PassageCourt.NONE);
        Check.due("never overstayed", x.about(0, 4), 0);
        Check.due("no day of a national counts", x.about(1, 2), 0);
        Check.due("overstayed on four", x.about(2, 4), 4);
        Check.due("they count", x.about(2, 2), 4);
        x.leave(2);
        x.lift(0, 2);
        Check.due("0 abroad", x.about(2, 4), 0);
        Check.due("NONE abroad", x.about(2, 0), PassageCourt.NONE);
        Check.due("in again", x.enter(2, 1), 0);
        Check.due("by which visa", x.about(2, 3), 0);
        Check.due("a visitor now", x.about(2, 4), 0);
        Check.due("the same days", x.about(2, 2), 4);
    }

    private static void aboutWrong() {
        Check.refused("no person", NO_SUCH, DaysTest::day4, y -> y.about(3, 9));
        Check.refused("person -1", NO_SUCH, DaysTest::day4, y -> y.about(-1, 0));
        Check.refused("what -1", WRONG, DaysTest::day4, y -> y.about(0, -1));
        Check.refused("what 5", WRONG, DaysTest::day4, y -> y.about(0, 5));
        Check.refused("no person for days", NO_SUCH, DaysTest::day4, y -> y.daysAnew(3));
        Check.refused("person -1 for days", NO_SUCH, DaysTest::day4, y -> y.daysAnew(-1));
    }

    private static void both(PassageCourt x, int person, String what, int due) {
        Check.due(what, x.about(person, 2), due);
        Check.due(what + ", anew", x.daysAnew(person), due);
    }

    private static void days() {
        PassageCourt x = three();
        x.rule(10, 3, 6);
        x.rule(20, 2, 1);
        x.rule(30, 9, 360);
        x.enter(0, 0);
        both(x, 0, "one day", 1);
        x.pass(9);
        both(x, 0, "ten of 180", 10);
        x.pass(1);
        both(x, 0, "six of six", 6);
        x.leave(0);
        x.lift(0, 0);
        both(x, 0, "the day of leaving too", 6);
        x.pass(1);
        both(x, 0, "a day abroad", 5);
        x.pass(9);
        both(x, 0, "none today", 0);
        x.enter(0, 0);
        both(x, 0, "today", 1);
        x.pass(10);
        both(x, 0, "all days", 22);
    }

    private static void daysOfOneWhoComesAndGoes() {
        PassageCourt x = three();
        x.enter(0, 0);
        x.pass(2);
        x.leave(0);
        x.pass(1);
        x.enter(0, 3);
        both(x, 0, "outside no day counts", 3);
        x.pass(2);
        x.leave(0);
        both(x, 0, "nor by leaving", 3);
        x.enter(0, 1);
        both(x, 0, "in on the same day", 4);
        x.leave(0);
        x.enter(0, 3);
        both(x, 0, "and out of it again", 3);
        x.leave(0);
        x.enter(0, 2);
        both(x, 0, "home", 3);
        Check.due("at home", x.was(0, 5), 21);
        x.leave(0);
        x.slip(0, 0);
        both(x, 0, "who slips in counts", 4);
    }

    private static void daysAtTheStart() {
        PassageCourt x = three();
        x.rule(0, 1, 1);
        x.enter(0, 0);
        both(x, 0, "the day 0", 1);
        x.pass(2);
        int late = x.person(2, 1);
        both(x, late, "told of late", 0);
        x.enter(late, 0);
        both(x, late, "its first day", 1);
        x.rule(2, 180, 360);
        both(x, late, "one still", 1);
        both(x, 0, "three", 3);
    }

    private static void was() {
        PassageCourt x = day4();
        x.move(0, 1);
        Check.due("nowhere on the day 0", x.was(0, 0), 0);
        Check.due("entered", x.was(0, 1), 3);
        Check.due("moved", x.was(0, 4), 13);
        Check.due("national", x.was(1, 4), 1);
        Check.due("overstayed", x.was(2, 2), 4);
        x.leave(0);
        Check.due("on the day of leaving", x.was(0, 4), 13);
        x.enter(0, 2);
        Check.due("the last one of the day", x.was(0, 4), 21);
        x.pass(2);
        x.leave(0);
        x.pass(1);
        Check.due("in land 2", x.was(0, 6), 21);
        Check.due("nowhere", x.was(0, 7), 0);
        x.nation(1, 0, false);
        Check.due("what was, was", x.was(1, 6), 1);
    }

    private static void wasWrong() {
        Check.refused("no person", NO_SUCH, DaysTest::day4, y -> y.was(3, 9));
        Check.refused("person -1", NO_SUCH, DaysTest::day4, y -> y.was(-1, 0));
        Check.refused("day -1", WRONG, DaysTest::day4, y -> y.was(0, -1));
        Check.refused("tomorrow", WRONG, DaysTest::day4, y -> y.was(0, 5));
        Check.refused("day 3601", WRONG, DaysTest::atTheEnd, y -> y.was(0, 3601));
    }

    private static void reason() {
        PassageCourt x = day4();
        x.rule(4, 4, 10);
        Check.due("as if it were abroad, today counted once", x.reason(0, 0), 0);
        x.rule(4, 3, 10);
        Check.due("no days left", x.reason(0, 0), 3);
        Check.due("outside the rules", x.reason(0, 3), 0);
        Check.due("of that nation", x.reason(0, 2), 0);
        Check.due("of nation 0 in land 3", x.reason(1, 3), 2);
        Check.due("by a visa", x.reason(2, 0), 3);
        x.rule(4, 4, 10);
        Check.due("by a visa, with days", x.reason(2, 0), 0);
        Check.due("nothing is taken", x.ofVisa(0, 0), 2);
        Check.due("no visa for that", x.reason(2, 2), 2);
        x.ban(2, 0, 1);
        Check.due("banned by any land", x.reason(0, 3), 1);
        Check.due("a national never", x.reason(0, 2), 0);
        x.pass(1);
        Check.due("not any more", x.reason(0, 3), 0);

        PassageCourt z = three();
        z.enter(0, 3);
        z.pass(80);
        Check.due("a stay that would be new", z.reason(0, 3), 0);
        Check.due("this one is too long", z.status(0), PassageCourt.OVERSTAYED);
        Check.refused("no person", NO_SUCH, DaysTest::day4, y -> y.reason(3, 0));
        Check.refused("person -1", NO_SUCH, DaysTest::day4, y -> y.reason(-1, 0));
        Check.refused("no land", NO_SUCH, DaysTest::day4, y -> y.reason(0, 4));
        Check.refused("land NONE", NO_SUCH, DaysTest::day4, y -> y.reason(0, -1));
    }

    private static void reasonWithVisas() {
        PassageCourt x = three();
        x.visa(2, 0, 0, 5, 1, 1);
        x.enter(2, 0);
        Check.due("no entry left", x.reason(2, 0), 2);
        x.visa(2, 0, 1, 5, 1, 1);
        Check.due("not valid yet", x.reason(2, 0), 2);
        x.pass(1);
        Check.due("valid today", x.reason(2, 0), 0);
        Check.due("not the one by which it came", x.status(2), PassageCourt.OVERSTAYED);
        x.pass(4);
        Check.due("on its last day", x.reason(2, 1), 0);
        x.pass(1);
        Check.due("over", x.reason(2, 1), 2);
    }

    private static void ofVisa() {
        PassageCourt x = day4();
        Check.due("entries", x.ofVisa(0, 0), 2);
        Check.due("days", x.ofVisa(0, 1), 5);
        Check.due("its person", x.ofVisa(0, 2), 2);
        x.leave(2);
        x.lift(0, 2);
        x.enter(2, 0);
        x.pass(2);
        Check.due("an entry less", x.ofVisa(0, 0), 1);
        Check.due("three days less", x.ofVisa(0, 1), 2);
        x.leave(2);
        x.pass(1);
        Check.due("none abroad", x.ofVisa(0, 1), 2);
        Check.refused("no visa", NO_SUCH, DaysTest::day4, y -> y.ofVisa(1, 9));
        Check.refused("visa -1", NO_SUCH, DaysTest::day4, y -> y.ofVisa(-1, 0));
        Check.refused("what -1", WRONG, DaysTest::day4, y -> y.ofVisa(0, -1));
        Check.refused("what 3", WRONG, DaysTest::day4, y -> y.ofVisa(0, 3));
    }
}
