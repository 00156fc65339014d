/** Promises 1 to 8: a new object, lands, waivers, rules, persons, births, nations, visas. */
public final class LandsTest {
    public static void main(String[] args) {
        newObject();
        land();
        waive();
        waiveDoesAtTheBorder();
        firstRule();
        ruleRange();
        ruleInForce();
        ruleOfToday();
        person();
        birthNations();
        birthByPermit();
        birthStay();
        birthWrong();
        nation();
        visaNumbers();
        visaRange();
        visaOfRegionAndOutside();
        visaEntriesAndDays();
        visaWindowOfDays();
        Check.end();
    }

    private static PassageCourt empty() {
        return new PassageCourt();
    }

    /** Lands 0 and 1 of the region, land 2 outside; person 0 is of nation 2, person 1 of none. */
    private static PassageCourt three() {
        PassageCourt x = new PassageCourt();
        x.land(true, true, true, 0);
        x.land(true, false, false, 5);
        x.land(false, false, true, 7);
        x.person(2, 30);
        x.person(PassageCourt.NONE, 40);
        return x;
    }

    private static void newObject() {
        PassageCourt x = empty();
        Check.due("the first land", x.land(true, true, true, 0), 0);
        Check.due("the first person", x.person(0, 0), 0);
        Check.due("the day 0, and the next", x.pass(1), 1);
        Check.refused("no land yet", IndexOutOfBoundsException.class, LandsTest::empty, y -> y.quota(0, 0, 0));
        Check.refused("no person yet", IndexOutOfBoundsException.class, LandsTest::empty, y -> y.status(0));
        Check.refused("no visa yet", IndexOutOfBoundsException.class, LandsTest::empty, y -> y.ofVisa(0, 0));
        Check.refused("no request yet", IndexOutOfBoundsException.class, LandsTest::empty, y -> y.ofRequest(0, 0));
    }

    private static PassageCourt fullOfLands() {
        PassageCourt x = empty();
        for (int i = 0; i < 8; i++) {
            x.land(true, true, true, i);
        }
        return x;
    }

    private static void land() {
        PassageCourt x = empty();
        for (int i = 0; i < 8; i++) {
            Check.due("land number", x.land(false, false, false, i % 2 * 30), i);
        }
        Check.refused("late -1", IllegalArgumentException.class, LandsTest::three, y -> y.land(true, true, true, -1));
        Check.refused("late 31", IllegalArgumentException.class, LandsTest::three, y -> y.land(true, true, true, 31));
        Check.refused("a ninth land", IllegalStateException.class, LandsTest::fullOfLands, y -> y.land(true, true, true, 30));
        Check.refused("a ninth, late 31", IllegalArgumentException.class, LandsTest::fullOfLands,
            y -> y.land(true, true, true, 31));
    }

    private static void waive() {
        PassageCourt x = three();
        Check.due("did not waive", x.waive(0, 2, true), false);
        Check.due("waived", x.waive(0, 2, true), true);
        Check.due("another land does not", x.waive(1, 2, false), false);
        Check.due("another nation is not", x.waive(0, 1, false), false);
        Check.due("waived still", x.waive(0, 2, false), true);
        Check.due("did not any more", x.waive(0, 2, false), false);
        Check.refused("no land", IndexOutOfBoundsException.class, LandsTest::three, y -> y.waive(3, 0, true));
        Check.refused("land -1", IndexOutOfBoundsException.class, LandsTest::three, y -> y.waive(-1, 0, true));
        Check.refused("no nation", IndexOutOfBoundsException.class, LandsTest::three, y -> y.waive(0, 3, true));
        Check.refused("nation NONE", IndexOutOfBoundsException.class, LandsTest::three, y -> y.waive(0, -1, true));
        Check.refused("both 3", IndexOutOfBoundsException.class, LandsTest::three, y -> y.waive(3, 3, true));
        Check.refused("both the same", IllegalArgumentException.class, LandsTest::three, y -> y.waive(1, 1, true));
    }

    private static void waiveDoesAtTheBorder() {
        PassageCourt x = three();
        Check.due("no waiver, no visa", x.enter(0, 0), 2);
        x.waive(0, 2, true);
        Check.due("waived by land 0 alone", x.reason(0, 1), 2);
        Check.due("not for the stateless", x.enter(1, 0), 2);
        Check.due("waived", x.enter(0, 0), 0);
        x.pass(1);
        Check.due("visitor", x.status(0), PassageCourt.VISITOR);
        x.waive(0, 2, false);
        Check.due("as it was looked at last", x.status(0), PassageCourt.VISITOR);
        x.pass(1);
        Check.due("not waived any more", x.status(0), PassageCourt.OVERSTAYED);
    }

    private static void firstRule() {
        PassageCourt x = three();
        x.waive(0, 2, true);
        x.enter(0, 0);
        x.pass(89);
        Check.due("the 90th day", x.status(0), PassageCourt.VISITOR);
        Check.due("90 count", x.about(0, 2), 90);
        x.leave(0);
        x.pass(1);
        Check.due("a 91st may not", x.enter(0, 0), 3);
        Check.passTo(x, 90, 179);
        Check.due("180 days still hold the first", x.enter(0, 0), 3);
        Check.due("90 count still", x.about(0, 2), 90);
        x.pass(1);
        Check.due("the window without the day 0", x.about(0, 2), 89);
        Check.due("the first day is out of it", x.enter(0, 0), 0);
        x.pass(1);
        Check.due("and so with each day", x.status(0), PassageCourt.VISITOR);
        Check.due("ninety of 180", x.about(0, 2), 90);
    }

    private static PassageCourt dayTen() {
        PassageCourt x = three();
        x.pass(10);
        return x;
    }

    private static PassageCourt fullOfRules() {
        PassageCourt x = dayTen();
        for (int i = 0; i < 9; i++) {
            x.rule(3600, 0, 1);
        }
        return x;
    }

    private static void ruleRange() {
        PassageCourt x = dayTen();
        Check.due("two rules then", x.rule(10, 0, 1), 2);
        Check.due("three rules then", x.rule(3600, 180, 360), 3);
        for (int i = 4; i <= 10; i++) {
            Check.due("up to ten", x.rule(11, 1, 1), i);
        }
        Class<?> wrong = IllegalArgumentException.class;
        Check.refused("a day that is over", wrong, LandsTest::dayTen, y -> y.rule(9, 1, 1));
        Check.refused("day 3601", wrong, LandsTest::dayTen, y -> y.rule(3601, 1, 1));
        Check.refused("most -1", wrong, LandsTest::dayTen, y -> y.rule(10, -1, 1));
        Check.refused("most 181", wrong, LandsTest::dayTen, y -> y.rule(10, 181, 360));
        Check.refused("window 0", wrong, LandsTest::dayTen, y -> y.rule(10, 0, 0));
        Check.refused("window 361", wrong, LandsTest::dayTen, y -> y.rule(10, 0, 361));
        Check.refused("an 11th rule", IllegalStateException.class, LandsTest::fullOfRules, y -> y.rule(10, 0, 1));
        Check.refused("an 11th rule, wrong", wrong, LandsTest::fullOfRules, y -> y.rule(9, 0, 1));
    }

    private static void ruleInForce() {
        PassageCourt x = three();
        x.waive(0, 2, true);
        x.rule(6, 8, 20);
        x.rule(3, 2, 20);
        x.rule(3, 4, 20);
        x.rule(9, 0, 1);
        x.enter(0, 0);
        x.pass(2);
        Check.due("the first rule until 2", x.status(0), PassageCourt.VISITOR);
        x.pass(1);
        Check.due("of like days the last told: 4 in 20", x.status(0), PassageCourt.VISITOR);
        x.pass(1);
        Check.due("a fifth", x.status(0), PassageCourt.OVERSTAYED);
        x.pass(2);
        Check.due("the greatest day, though told ahead: 7 of 8", x.status(0), PassageCourt.VISITOR);
        x.pass(2);
        Check.due("a ninth", x.status(0), PassageCourt.OVERSTAYED);
        x.pass(1);
        Check.due("none in 1", x.status(0), PassageCourt.OVERSTAYED);
        Check.due("the window of today alone", x.about(0, 2), 1);
        Check.due("counted anew", x.daysAnew(0), 1);
    }

    private static void ruleOfToday() {
        PassageCourt x = three();
        x.waive(0, 2, true);
        x.enter(0, 0);
        x.pass(5);
        x.rule(5, 3, 4);
        Check.due("looked at before the rule", x.status(0), PassageCourt.VISITOR);
        Check.due("the window of the rule of today", x.about(0, 2), 4);
        Check.due("of one told of late for today", x.reason(0, 0), 3);
        x.rule(5, 4, 4);
        Check.due("at most so many, that day with them", x.reason(0, 0), 0);
        x.pass(1);
        Check.due("always four in four", x.status(0), PassageCourt.VISITOR);
    }

    private static PassageCourt fullOfPersons() {
        PassageCourt x = three();
        for (int i = 2; i < 16; i++) {
            x.person(PassageCourt.NONE, 0);
        }
        x.slip(0, 0);
        return x;
    }

    private static void person() {
        PassageCourt x = three();
        Check.due("a third", x.person(1, 0), 2);
        Check.due("of nation 1", x.about(2, 1), 2);
        Check.due("a fourth", x.person(PassageCourt.NONE, 99), 3);
        Check.due("stateless", x.about(3, 1), 0);
        Check.due("abroad", x.status(3), PassageCourt.ABROAD);
        Check.due("in no land", x.about(3, 0), PassageCourt.NONE);
        for (int i = 4; i < 16; i++) {
            Check.due("up to 16", x.person(0, 1), i);
        }
        Check.refused("no land 3", IndexOutOfBoundsException.class, LandsTest::three, y -> y.person(3, 1));
        Check.refused("no land -2", IndexOutOfBoundsException.class, LandsTest::three, y -> y.person(-2, 1));
        Check.refused("age -1", IllegalArgumentException.class, LandsTest::three, y -> y.person(0, -1));
        Check.refused("age 100", IllegalArgumentException.class, LandsTest::three, y -> y.person(-1, 100));
        Check.refused("no land, age 100", IndexOutOfBoundsException.class, LandsTest::three, y -> y.person(3, 100));
        Check.refused("a 17th", IllegalStateException.class, LandsTest::fullOfPersons, y -> y.person(0, 1));
        Check.refused("a 17th, age 100", IllegalArgumentException.class, LandsTest::fullOfPersons, y -> y.person(0, 100));
    }

    private static void birthNations() {
        PassageCourt x = three();
        int mother = x.person(0, 20);
        x.nation(mother, 1, true);
        x.slip(mother, 2);
        Check.due("by descent of the mother, not of nation 1", x.about(x.birth(mother, PassageCourt.NONE), 1), 1);
        Check.due("of the father too", x.about(x.birth(mother, 0), 1), 5);
        Check.due("of the father alone, land 2 gives none by soil", x.about(x.birth(mother, 1), 1), 1);
        x.leave(mother);
        x.nation(mother, 0, false);
        x.slip(mother, 0);
        Check.due("by soil, but neither is of it", x.about(x.birth(mother, 0), 1), 4);
        x.nation(0, 0, true);
        x.nation(0, 2, false);
        Check.due("the father is of it, though abroad", x.about(x.birth(mother, 0), 1), 1);

        PassageCourt w = fullOfLands();
        w.person(1, 20);
        w.person(4, 20);
        w.nation(0, 7, true);
        w.nation(0, 6, true);
        w.slip(0, 6);
        Check.due("of lands with any number, by descent and by soil", w.about(w.birth(0, 1), 1), 2 + 16 + 64 + 128);
        PassageCourt v = empty();
        v.land(true, false, true, 0);
        v.land(true, true, false, 0);
        v.person(0, 20);
        v.nation(0, 1, true);
        v.slip(0, 1);
        Check.due("of one by descent, of the other by soil", v.about(v.birth(0, -1), 1), 3);

        PassageCourt z = empty();
        z.land(true, true, false, 0);
        z.land(true, false, false, 0);
        z.person(0, 20);
        z.person(0, 20);
        z.slip(0, 1);
        Check.due("neither way", z.about(z.birth(0, 1), 1), 0);
        z.move(0, 0);
        Check.due("by soil, the mother is of it", z.about(z.birth(0, -1), 1), 1);
        z.nation(0, 0, false);
        Check.due("by soil, the father is of it", z.about(z.birth(0, 1), 1), 1);
        z.nation(1, 0, false);
        Check.due("by soil, nobody is of it", z.about(z.birth(0, 1), 1), 0);
    }

    private static void birthByPermit() {
        PassageCourt x = empty();
        x.land(true, true, false, 0);
        x.land(true, true, false, 0);
        x.person(PassageCourt.NONE, 30);
        x.person(PassageCourt.NONE, 30);
        x.quota(0, 0, 1);
        x.ask(1, 0, 0);
        x.slip(0, 0);
        Check.passTo(x, 0, 359);
        Check.due("no permit yet", x.about(x.birth(0, 1), 1), 0);
        x.pass(1);
        Check.due("the father abroad has a permit", x.about(x.birth(0, 1), 1), 1);
        Check.due("nobody told has", x.about(x.birth(0, -1), 1), 0);
        x.enter(1, 0);
        Check.due("the mother has", x.about(x.birth(1, 0), 1), 1);
        x.move(0, 1);
        Check.due("not of this land", x.about(x.birth(0, 1), 1), 0);
        Check.passTo(x, 360, 719);
        Check.due("on its last day", x.about(x.birth(1, -1), 1), 1);
        x.pass(1);
        Check.due("not valid any more", x.about(x.birth(1, -1), 1), 0);
    }

    private static void birthStay() {
        PassageCourt x = three();
        x.waive(1, 2, true);
        x.slip(0, 1);
        x.pass(4);
        int child = x.birth(0, PassageCourt.NONE);
        Check.due("it is where the mother is", x.about(child, 0), 1);
        Check.due("the mother slipped in", x.status(0), PassageCourt.OVERSTAYED);
        Check.due("the child did not", x.status(child), PassageCourt.VISITOR);
        Check.due("it has no visa", x.about(child, 3), PassageCourt.NONE);
        Check.due("its first day counts", x.about(child, 2), 1);
        Check.due("nowhere before", x.was(child, 3), 0);
        Check.due("there today", x.was(child, 4), 13);
        x.pass(1);
        Check.due("two days", x.daysAnew(child), 2);
        Check.due("no day too many", x.leave(child), PassageCourt.NONE);
        int other = x.birth(0, 1);
        Check.due("a child of two", x.about(other, 1), 4);
        x.nation(other, 2, false);
        x.pass(1);
        Check.due("neither waiver nor visa", x.status(other), PassageCourt.OVERSTAYED);
    }

    private static void birthWrong() {
        Class<?> none = IndexOutOfBoundsException.class;
        Check.refused("no mother", none, LandsTest::fullOfPersons, y -> y.birth(16, 0));
        Check.refused("mother NONE", none, LandsTest::fullOfPersons, y -> y.birth(-1, 0));
        Check.refused("both NONE", none, LandsTest::fullOfPersons, y -> y.birth(-1, -1));
        Check.refused("no father", none, LandsTest::fullOfPersons, y -> y.birth(0, 16));
        Check.refused("father -2", none, LandsTest::fullOfPersons, y -> y.birth(0, -2));
        Check.refused("both the same", IllegalArgumentException.class, LandsTest::fullOfPersons, y -> y.birth(1, 1));
        Check.refused("the mother abroad", IllegalStateException.class, LandsTest::three, y -> y.birth(1, 0));
        Check.refused("a 17th born", IllegalStateException.class, LandsTest::fullOfPersons, y -> y.birth(0, 1));
    }

    private static void nation() {
        PassageCourt x = three();
        Check.due("one more", x.nation(0, 0, true), 5);
        Check.due("the same again", x.nation(0, 0, true), 5);
        Check.due("not any more", x.nation(0, 2, false), 1);
        Check.due("not at all", x.nation(0, 1, false), 1);
        Check.due("stateless then", x.nation(0, 0, false), 0);
        x.nation(1, 1, true);
        Check.due("national", x.enter(1, 1), 0);
        x.nation(1, 1, false);
        Check.due("as it was looked at last", x.status(1), PassageCourt.NATIONAL);
        x.pass(1);
        Check.due("not national any more", x.status(1), PassageCourt.OVERSTAYED);
        Class<?> none = IndexOutOfBoundsException.class;
        Check.refused("no person", none, LandsTest::three, y -> y.nation(2, 0, true));
        Check.refused("person -1", none, LandsTest::three, y -> y.nation(-1, 0, true));
        Check.refused("no land", none, LandsTest::three, y -> y.nation(0, 3, true));
        Check.refused("land NONE", none, LandsTest::three, y -> y.nation(0, -1, true));
    }

    private static PassageCourt fullOfVisas() {
        PassageCourt x = dayTen();
        for (int i = 0; i < 60; i++) {
            x.visa(0, i % 3, 10, 20, 1, 1);
        }
        return x;
    }

    private static void visaNumbers() {
        PassageCourt x = dayTen();
        Check.due("the first visa", x.visa(1, 0, 10, 10, 1, 1), 0);
        Check.due("the second", x.visa(0, 2, 3600, 3600, 9, 90), 1);
        Check.due("its entries", x.ofVisa(1, 0), 9);
        Check.due("its days", x.ofVisa(1, 1), 90);
        Check.due("its person", x.ofVisa(1, 2), 0);
        for (int i = 2; i < 60; i++) {
            Check.due("up to 60", x.visa(0, 0, 10, 3600, 1, 1), i);
        }
        Check.refused("a 61st", IllegalStateException.class, LandsTest::fullOfVisas, y -> y.visa(0, 0, 10, 20, 1, 1));
        Check.refused("a 61st, wrong", IllegalArgumentException.class, LandsTest::fullOfVisas,
            y -> y.visa(0, 0, 9, 20, 1, 1));
    }

    private static void visaRange() {
        Class<?> none = IndexOutOfBoundsException.class;
        Class<?> wrong = IllegalArgumentException.class;
        Check.refused("no person", none, LandsTest::dayTen, y -> y.visa(2, 0, 10, 20, 1, 1));
        Check.refused("person -1", none, LandsTest::dayTen, y -> y.visa(-1, 0, 10, 20, 1, 1));
        Check.refused("no land", none, LandsTest::dayTen, y -> y.visa(0, 3, 10, 20, 1, 1));
        Check.refused("land NONE", none, LandsTest::dayTen, y -> y.visa(0, -1, 0, 20, 1, 1));
        Check.refused("first that is over", wrong, LandsTest::dayTen, y -> y.visa(0, 0, 9, 20, 1, 1));
        Check.refused("first 3601", wrong, LandsTest::dayTen, y -> y.visa(0, 0, 3601, 3601, 1, 1));
        Check.refused("last ahead of first", wrong, LandsTest::dayTen, y -> y.visa(0, 0, 12, 11, 1, 1));
        Check.refused("last 3601", wrong, LandsTest::dayTen, y -> y.visa(0, 0, 10, 3601, 1, 1));
        Check.refused("entries 0", wrong, LandsTest::dayTen, y -> y.visa(0, 0, 10, 20, 0, 1));
        Check.refused("entries 10", wrong, LandsTest::dayTen, y -> y.visa(0, 0, 10, 20, 10, 1));
        Check.refused("days 0", wrong, LandsTest::dayTen, y -> y.visa(0, 0, 10, 20, 1, 0));
        Check.refused("days 91", wrong, LandsTest::dayTen, y -> y.visa(0, 0, 10, 20, 1, 91));
    }

    private static void visaOfRegionAndOutside() {
        PassageCourt x = three();
        x.land(false, false, false, 0);
        x.visa(1, 2, 0, 9, 9, 9);
        Check.due("of a land outside, for it alone", x.reason(1, 2), 0);
        Check.due("not for another one outside", x.reason(1, 3), 2);
        Check.due("not for the region", x.reason(1, 0), 2);
        Check.due("not for another person", x.reason(0, 0), 2);
        x.visa(1, 0, 0, 9, 9, 9);
        Check.due("of a land of the region, for it", x.reason(1, 0), 0);
        Check.due("and for the others there", x.reason(1, 1), 0);
        Check.due("not outside", x.reason(1, 3), 2);
        x.enter(1, 1);
        Check.due("by it", x.about(1, 3), 1);
        x.move(1, 0);
        Check.due("it stays", x.about(1, 3), 1);
        Check.due("a visitor by it", x.status(1), PassageCourt.VISITOR);
    }

    private static void visaEntriesAndDays() {
        PassageCourt x = three();
        x.visa(1, 0, 0, 30, 2, 3);
        x.visa(1, 0, 0, 30, 1, 5);
        Check.due("in", x.enter(1, 0), 0);
        Check.due("the lowest", x.about(1, 3), 0);
        Check.due("an entry less", x.ofVisa(0, 0), 1);
        Check.due("a day less", x.ofVisa(0, 1), 2);
        x.move(1, 1);
        Check.due("each day once", x.ofVisa(0, 1), 2);
        x.leave(1);
        Check.due("no visa abroad", x.about(1, 3), PassageCourt.NONE);
        x.enter(1, 0);
        Check.due("an entry again", x.ofVisa(0, 0), 0);
        Check.due("the same day", x.ofVisa(0, 1), 2);
        x.pass(2);
        Check.due("its days are taken", x.ofVisa(0, 1), 0);
        Check.due("it does still on the day that is taken", x.move(1, 1), PassageCourt.VISITOR);
        Check.due("nothing below 0", x.ofVisa(0, 1), 0);
        x.leave(1);
        Check.due("no entry left: the next", x.enter(1, 0), 0);
        Check.due("it is that", x.about(1, 3), 1);
        Check.due("a day of that", x.ofVisa(1, 1), 4);
        x.pass(5);
        Check.due("its days are over", x.status(1), PassageCourt.OVERSTAYED);
        Check.due("none left", x.ofVisa(1, 1), 0);

        PassageCourt z = three();
        z.visa(1, 0, 0, 30, 2, 1);
        z.enter(1, 0);
        z.leave(1);
        Check.due("that of today taken already", z.enter(1, 0), 0);
        Check.due("with an entry", z.ofVisa(0, 0), 0);
        z.leave(1);
        Check.due("no entry left", z.enter(1, 0), 2);

        PassageCourt y = three();
        y.visa(1, 0, 0, 30, 2, 1);
        y.enter(1, 0);
        y.leave(1);
        y.pass(1);
        Check.due("an entry, but no day", y.enter(1, 0), 2);
        Check.due("the entry stays", y.ofVisa(0, 0), 1);
    }

    private static void visaWindowOfDays() {
        PassageCourt x = three();
        x.visa(1, 0, 2, 4, 9, 90);
        Check.due("too early", x.enter(1, 0), 2);
        x.pass(1);
        Check.due("still too early", x.enter(1, 0), 2);
        x.pass(1);
        Check.due("its first day", x.enter(1, 0), 0);
        x.pass(2);
        Check.due("its last day", x.status(1), PassageCourt.VISITOR);
        x.leave(1);
        Check.due("in on its last day", x.enter(1, 0), 0);
        x.pass(1);
        Check.due("over", x.status(1), PassageCourt.OVERSTAYED);
        Check.due("three days were taken", x.ofVisa(0, 1), 87);
        x.nation(1, 2, true);
        x.waive(0, 2, true);
        x.pass(1);
        Check.due("free of visas instead", x.status(1), PassageCourt.VISITOR);
        Check.due("no day of it", x.ofVisa(0, 1), 87);

        PassageCourt z = three();
        z.waive(0, 2, true);
        z.visa(0, 0, 0, 30, 1, 9);
        z.enter(0, 0);
        Check.due("not needed: not taken", z.ofVisa(0, 0) * 10 + z.ofVisa(0, 1), 19);
        Check.due("came by none", z.about(0, 3), PassageCourt.NONE);
        z.waive(0, 2, false);
        z.pass(1);
        Check.due("a visa by which one did not come", z.status(0), PassageCourt.OVERSTAYED);
    }
}
