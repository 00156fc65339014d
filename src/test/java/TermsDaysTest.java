/** The sentences of 'Days, lands, persons': each with the last that still is and the first that is not any more. */
public final class TermsDaysTest {
    private static final Class<?> WRONG = IllegalArgumentException.class;
    private static final Class<?> STATE = IllegalStateException.class;

    public static void main(String[] args) {
        daysFrom0To3600();
        yearHas360Days();
        atMost8Lands();
        landsHearSoManyDaysLate();
        atMost16Persons();
        ofNoneItIsStateless();
        nationsByDescent();
        nationsBySoil();
        nationsBySoilThroughAPermit();
        nationsAreOfTheDayOfBirth();
        bornAsIfItHadEntered();
        bornOutsideTheRegion();
        fiveHundredTwelveCalls();
        Check.end();
    }

    // "Days are counted from 0 to 3600"
    private static void daysFrom0To3600() {
        PassageCourt x = Scene.five();
        Check.due("the day 0 is there", x.was(0, 0), 0);
        Check.refused("the day 1 is not yet", WRONG, Scene::five, y -> y.was(0, 1));
        Check.due("the first day that passes", x.pass(1), 1);
        Check.due("the day 1 is there", x.was(0, 1), 0);
        Check.passTo(x, 1, 3500);
        Check.due("a hundred to the last one", x.pass(100), 3600);
        Check.due("it is there", x.was(0, 3600), 0);
        Check.due("one can tell a rule for it", x.rule(3600, 1, 1), 2);
        Check.due("and give a visa for it", x.visa(0, 0, 3600, 3600, 1, 1), 0);
        Check.due("and enter on it", x.slip(2, 0), PassageCourt.NATIONAL);
        x.slip(1, 0);
        Check.due("it counts", x.about(1, 2) * 10 + x.daysAnew(1), 11);
        Check.refused("none behind it", STATE, () -> Scene.onDay(3600), y -> y.pass(1));
        Check.taken("one ahead of it", () -> Scene.onDay(3599), y -> y.pass(1));
        Check.refused("one too many", STATE, () -> Scene.onDay(3599), y -> y.pass(2));
        Check.refused("a day behind the last one", WRONG, () -> Scene.onDay(3600), y -> y.was(0, 3601));
    }

    // "a year has 360 days, the year y the days from 360 y on"
    private static void yearHas360Days() {
        for (int year = 1; year <= 10; year++) {
            PassageCourt x = Scene.five();
            Check.passTo(x, 0, 360 * year - 360);
            x.quota(0, 0, 1);
            x.ask(0, 0, 0);
            Check.passTo(x, 360 * year - 360, 360 * year - 1);
            Check.due("the last day ahead of the year " + year, x.ofRequest(0, 0), PassageCourt.WAITING);
            x.pass(1);
            Check.due("the first day of the year " + year, x.ofRequest(0, 0), PassageCourt.GRANTED);
        }
    }

    // "Lands are numbered from 0, at most 8"
    private static void atMost8Lands() {
        PassageCourt x = Scene.empty();
        for (int i = 0; i < 8; i++) {
            Check.due("numbered", x.land(i % 2 == 0, true, true, 0), i);
        }
        int one = x.person(7, 1);
        Check.due("of the last one", x.about(one, 1), 128);
        Check.due("into it", x.enter(one, 7), 0);
        Check.due("there", x.was(one, 0), 71);
        Check.refused("a ninth", STATE, Scene::full, y -> y.land(false, false, false, 0));
    }

    // "hears of bans of others so many days late"
    private static void landsHearSoManyDaysLate() {
        PassageCourt x = Scene.empty();
        int[] lates = {9, 0, 1, 29, 30};
        for (int late : lates) {
            x.land(false, false, false, late);
        }
        x.person(PassageCourt.NONE, 1);
        x.ban(0, 0, 100);
        for (int day = 0; day <= 31; day++) {
            Check.due("its own, however late", x.banned(0, 0, 0), 99);
            for (int k = 1; k < lates.length; k++) {
                int due = day < lates[k] ? PassageCourt.NONE : 99;
                Check.due("on the day " + day + ", " + lates[k] + " days late", x.banned(0, 0, k), due);
                Check.due("at the border, " + day, x.reason(0, k), day < lates[k] ? 2 : 1);
            }
            x.pass(1);
        }
    }

    // "Persons are numbered from 0, at most 16"
    private static void atMost16Persons() {
        PassageCourt x = Scene.lands();
        for (int i = 0; i < 14; i++) {
            Check.due("numbered", x.person(0, i), i);
        }
        x.slip(13, 0);
        Check.due("one who is born too", x.birth(13, 0), 14);
        Check.due("the last one, born", x.birth(13, PassageCourt.NONE), 15);
        Check.due("it can all that others can", x.leave(15), PassageCourt.NONE);
        Check.due("and enter", x.enter(15, 0), 0);
        Check.due("and ask", x.ask(15, 1, 0), 0);
        Check.due("and follow", x.join(x.ask(0, 1, 0), 15), 1);
        Check.refused("a 17th", STATE, Scene::full, y -> y.person(0, 0));
        Check.refused("a 17th, born", STATE, Scene::full, y -> y.birth(0, 1));
    }

    // "is of some nations ...; of none it is stateless"
    private static void ofNoneItIsStateless() {
        PassageCourt x = Scene.lands();
        Check.due("told as such", x.about(x.person(PassageCourt.NONE, 0), 1), 0);
        int one = x.person(0, 0);
        Check.due("of land 0", x.about(one, 1), 1);
        for (int i = 1; i < 4; i++) {
            x.nation(one, i, true);
        }
        Check.due("of all", x.about(one, 1), 15);
        Check.due("of all but one", x.nation(one, 0, false), 14);
        x.nation(one, 1, false);
        Check.due("of a last one", x.nation(one, 2, false), 8);
        Check.due("at home there", x.reason(one, 3), 0);
        Check.due("of none", x.nation(one, 3, false), 0);
        Check.due("not at home there any more", x.reason(one, 3), 2);
    }

    /** Land 0 by descent, 1 by soil, 2 both ways, 3 neither; persons 0 to 3 of those nations, 4 of none. */
    private static PassageCourt waysOfBirth() {
        PassageCourt x = new PassageCourt();
        x.land(true, false, true, 0);
        x.land(true, true, false, 0);
        x.land(true, true, true, 0);
        x.land(true, false, false, 0);
        for (int i = 0; i < 4; i++) {
            x.person(i, 20);
        }
        x.person(PassageCourt.NONE, 20);
        return x;
    }

    // "the nations of the mother and the father (if told) of lands that give it by descent"
    private static void nationsByDescent() {
        PassageCourt x = waysOfBirth();
        for (int i = 0; i < 5; i++) {
            x.slip(i, 3);
        }
        int[] given = {1, 0, 4, 0, 0};
        for (int mother = 0; mother < 5; mother++) {
            int father = (mother + 2) % 5;
            PassageCourt y = waysOfBirth();
            y.slip(mother, 3);
            Check.due("of the mother " + mother, y.about(y.birth(mother, PassageCourt.NONE), 1), given[mother]);
            Check.due("and of the father " + father, y.about(y.birth(mother, father), 1), given[mother] | given[father]);
        }
        x.nation(3, 0, true);
        x.nation(3, 2, true);
        Check.due("of several of one", x.about(x.birth(3, PassageCourt.NONE), 1), 5);
        Check.due("of the father alone", x.about(x.birth(4, 3), 1), 5);
        Check.due("of neither", x.about(x.birth(4, 1), 1), 0);
    }

    // "and that of the land of birth, if that gives it by soil, and the mother or the father is of that nation"
    private static void nationsBySoil() {
        int[] given = {0, 2, 0, 0};
        for (int land = 0; land < 4; land++) {
            PassageCourt x = waysOfBirth();
            x.slip(4, land);
            Check.due("neither is of land " + land, x.about(x.birth(4, land == 3 ? 1 : 3), 1), 0);
            int byDescent = land == 0 || land == 2 ? 1 << land : 0;
            Check.due("the father is of land " + land, x.about(x.birth(4, land), 1), given[land] | byDescent);
            x.enter(land, land);
            Check.due("the mother is of land " + land, x.about(x.birth(land, 4), 1), given[land] | byDescent);
            Check.due("no father", x.about(x.birth(land, PassageCourt.NONE), 1), given[land] | byDescent);
        }
        PassageCourt x = waysOfBirth();
        x.slip(1, 3);
        Check.due("not that of a land where it is not born", x.about(x.birth(1, PassageCourt.NONE), 1), 0);
        x.move(1, 2);
        Check.due("nor by being of another one", x.about(x.birth(1, 4), 1), 0);
    }

    // "or has a permit of it that is valid, wherever that one is"
    private static void nationsBySoilThroughAPermit() {
        PassageCourt x = waysOfBirth();
        x.quota(1, 0, 1);
        x.ask(0, 1, 0);
        x.slip(4, 1);
        Check.passTo(x, 0, 359);
        Check.due("a day ahead of the permit", x.about(x.birth(4, 0), 1), 1);
        x.pass(1);
        Check.due("on its first day, the father abroad", x.about(x.birth(4, 0), 1), 3);
        x.slip(0, 3);
        Check.due("the father in another land", x.about(x.birth(4, 0), 1), 3);
        Check.due("the mother not in that land", x.about(x.birth(0, PassageCourt.NONE), 1), 1);
        x.leave(4);
        x.slip(4, 2);
        Check.due("a permit of another land", x.about(x.birth(4, 0), 1), 1);
        x.move(0, 1);
        Check.due("the mother has it, without a father", x.about(x.birth(0, PassageCourt.NONE), 1), 3);
        Check.passTo(x, 360, 719);
        Check.due("on its last day", x.about(x.birth(0, PassageCourt.NONE), 1), 3);
        x.pass(1);
        Check.due("a day behind it", x.about(x.birth(0, PassageCourt.NONE), 1), 1);
    }

    private static void nationsAreOfTheDayOfBirth() {
        PassageCourt x = waysOfBirth();
        x.slip(4, 0);
        int child = x.birth(4, 0);
        x.nation(4, 2, true);
        x.nation(0, 0, false);
        Check.due("what comes behind the birth does nothing", x.about(child, 1), 1);
        Check.due("nor for the one who is born with it", x.about(x.birth(4, 0), 1), 4);
    }

    // "it is in that land, as if it had entered there, without being asked, and without a visa"
    private static void bornAsIfItHadEntered() {
        PassageCourt x = Scene.lands();
        x.waive(0, 2, true);
        x.person(2, 20);
        x.rule(0, 4, 9);
        x.visa(0, 1, 0, 99, 1, 9);
        x.slip(0, 1);
        x.ban(1, 0, 99);
        x.pass(5);
        int child = x.birth(0, PassageCourt.NONE);
        Check.due("of nation 2 by descent, banned by none", x.about(child, 1), 4);
        Check.due("where the mother is", x.about(child, 0), 1);
        Check.due("by no visa", x.about(child, 3), PassageCourt.NONE);
        Check.due("neither waived nor a visa", x.status(child), PassageCourt.OVERSTAYED);
        Check.due("on that day", x.about(child, 4), 1);
        Check.due("and not before", x.was(child, 4), 0);
        Check.due("it did not slip in", x.move(child, 0), PassageCourt.VISITOR);
        Check.due("the last look of today", x.about(child, 4), 0);
        x.pass(3);
        Check.due("the fourth day in nine", x.status(child), PassageCourt.VISITOR);
        x.pass(1);
        Check.due("the fifth", x.status(child), PassageCourt.OVERSTAYED);
        Check.due("it leaves as others do", x.leave(child), 19);
        Check.due("the mother did slip in", x.move(0, 0), PassageCourt.OVERSTAYED);
    }

    private static void bornOutsideTheRegion() {
        PassageCourt x = Scene.lands();
        x.waive(3, 2, true);
        x.person(2, 20);
        x.enter(0, 3);
        x.pass(7);
        int child = x.birth(0, PassageCourt.NONE);
        x.pass(52);
        Check.due("the 60th day of the mother", x.status(0), PassageCourt.VISITOR);
        x.pass(1);
        Check.due("the 61st of the mother", x.status(0), PassageCourt.OVERSTAYED);
        x.pass(6);
        Check.due("the 60th of the child", x.status(child), PassageCourt.VISITOR);
        x.pass(1);
        Check.due("the 61st of the child", x.status(child), PassageCourt.OVERSTAYED);
    }

    // "An object is used for at most 512 calls after it has been made"
    private static void fiveHundredTwelveCalls() {
        PassageCourt x = new PassageCourt();
        for (int i = 0; i < 8; i++) {
            x.land(i < 4, true, true, 30 - i);
        }
        for (int i = 0; i < 16; i++) {
            x.person(i % 8, i);
        }
        for (int i = 0; i < 60; i++) {
            x.visa(i % 16, (i + 1) % 8, 0, 3600, 9, 90);
        }
        for (int i = 0; i < 9; i++) {
            x.rule(i * 300, 60, 180);
        }
        int calls = 93;
        for (int i = 0; i < 40; i++, calls++) {
            x.ask(i % 16, (i + 1 + i / 16) % 8, i % 3);
        }
        for (int day = 0; day < 3600; day += 60, calls += 6) {
            int one = day / 60 % 16;
            x.slip(one, one % 4);
            x.move(one, (one + 1) % 4);
            x.pass(50);
            x.leave(one);
            x.daysAnew(one);
            x.pass(10);
        }
        for (; calls < 511; calls++) {
            x.ban(calls % 8, calls % 16, 720);
        }
        Check.due("the 512th call", x.banned(510 % 8, 510 % 16, 510 % 8), 4319);
    }
}
