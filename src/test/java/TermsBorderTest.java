/** The sentences on visas and of 'Asking at the border': freedom of visas, visas, the order of reasons, bans. */
public final class TermsBorderTest {
    private static final int NONE = PassageCourt.NONE, RESIDENT = PassageCourt.RESIDENT;
    private static final int VISITOR = PassageCourt.VISITOR, OVERSTAYED = PassageCourt.OVERSTAYED;

    public static void main(String[] args) {
        waivedForOneOfItsNations();
        permitOfTheRegion();
        visaForAllLandsOfTheRegion();
        visaFromFirstToLast();
        visaByWhichItCame();
        visaForSoManyEntries();
        visaForSoManyDays();
        visaDayOnce();
        visaDaysNotTaken();
        firstOfTheReasons();
        nationalAndResidentAreNotAsked();
        visaThatWouldDo();
        lowestVisaWhenNeeded();
        movingNeedsNothing();
        bannedByAnyLandAsFarAsKnown();
        bannedTenTimesAsLong();
        bannedForDaysOfThisStay();
        bannedFromTheDayBehind();
        theBanThatEndsLater();
        theBanThatEndsLaterIsHeardOfAnew();
        liftedForAll();
        Check.end();
    }

    /** Lands 0 and 1 of the region, late 5 and 30; 2 and 3 outside, late 2 and 0; persons 0 of nation 2, 1 of none. */
    private static PassageCourt two() {
        PassageCourt x = new PassageCourt();
        x.land(true, false, false, 5);
        x.land(true, false, false, 30);
        x.land(false, false, false, 2);
        x.land(false, false, false, 0);
        x.person(2, 30);
        x.person(NONE, 30);
        return x;
    }

    /** Person 1 has a permit of that land from 360 to 719; today is 360. */
    private static PassageCourt permitOf(int land) {
        PassageCourt x = two();
        x.quota(land, 0, 1);
        x.ask(1, land, 0);
        Check.passTo(x, 0, 360);
        return x;
    }

    // "free of visas for that land, because it is of a nation for which the land waives them"
    private static void waivedForOneOfItsNations() {
        PassageCourt x = two();
        x.waive(0, 2, true);
        Check.due("of that nation", x.reason(0, 0), 0);
        Check.due("another land of the region does not", x.reason(0, 1), 2);
        Check.due("of none", x.reason(1, 0), 2);
        x.nation(1, 3, true);
        Check.due("of another one", x.reason(1, 0), 2);
        x.nation(1, 2, true);
        Check.due("of several, one of which it is", x.reason(1, 0), 0);
        x.waive(0, 2, false);
        Check.due("not any more", x.reason(1, 0), 2);
        x.waive(0, 3, true);
        Check.due("for the other one", x.reason(1, 0), 0);
        Check.due("not for the first", x.reason(0, 0), 2);
        x.waive(2, 0, true);
        Check.due("waiving goes one way", x.reason(0, 0), 2);
    }

    // "or has a permit of a land of the region that is valid, this one being of the region, too"
    private static void permitOfTheRegion() {
        for (int land = 0; land < 2; land++) {
            PassageCourt x = permitOf(land);
            Check.due("the day on which it begins", x.reason(1, 1 - land), 0);
            Check.due("not outside", x.reason(1, 3), 2);
            Check.due("not another person", x.reason(0, 1 - land), 2);
            x.enter(1, 1 - land);
            Check.due("a visitor there", x.status(1), VISITOR);
            x.rule(360, 180, 360);
            x.pass(100);
            Check.due("a visitor by it", x.status(1), VISITOR);
            Check.passTo(x, 460, 719);
            Check.due("many days", x.status(1), OVERSTAYED);
            x.rule(719, 1, 1);
            Check.due("its last day", x.reason(1, 1 - land), 0);
            x.pass(1);
            Check.due("the day behind it", x.reason(1, 1 - land), 2);
            Check.due("and there", x.status(1), OVERSTAYED);
        }
        PassageCourt x = permitOf(0);
        x.enter(1, 1);
        x.rule(361, 1, 1);
        Check.passTo(x, 360, 719);
        Check.due("a visitor to its last day", x.status(1), VISITOR);
        x.pass(1);
        Check.due("not behind it", x.status(1), OVERSTAYED);
        PassageCourt z = permitOf(3);
        Check.due("a permit of a land outside: RESIDENT there", z.reason(1, 3), 0);
        Check.due("not for the region", z.reason(1, 0), 2);
        Check.due("not for another one outside", z.reason(1, 2), 2);
    }

    // "a visa is of a land (if that is in the region, for all lands there)"
    private static void visaForAllLandsOfTheRegion() {
        int[][] due = {{0, 0, 2, 2}, {0, 0, 2, 2}, {2, 2, 0, 2}, {2, 2, 2, 0}};
        for (int of = 0; of < 4; of++) {
            PassageCourt x = two();
            x.visa(1, of, 0, 9, 1, 1);
            for (int land = 0; land < 4; land++) {
                Check.due("a visa of land " + of + " for land " + land, x.reason(1, land), due[of][land]);
            }
        }
    }

    // "has a first and a last day": valid from the one to the other
    private static void visaFromFirstToLast() {
        PassageCourt x = two();
        x.visa(1, 0, 3, 6, 9, 90);
        x.pass(2);
        Check.due("a day ahead of its first", x.enter(1, 0), 2);
        x.pass(1);
        Check.due("its first day", x.enter(1, 0), 0);
        x.pass(3);
        Check.due("its last day, within", x.status(1), VISITOR);
        x.leave(1);
        Check.due("its last day, at the border", x.enter(1, 1), 0);
        x.pass(1);
        Check.due("the day behind, within", x.status(1), OVERSTAYED);
        x.leave(1);
        Check.due("the day behind, at the border", x.reason(1, 0), 2);
        PassageCourt z = two();
        z.visa(1, 2, 0, 0, 1, 1);
        Check.due("a visa for a day", z.enter(1, 2), 0);
        z.pass(1);
        Check.due("for that day alone", z.status(1), OVERSTAYED);
    }

    // "or has to have the visa by which it came"
    private static void visaByWhichItCame() {
        PassageCourt x = two();
        x.visa(1, 0, 0, 1, 1, 9);
        x.visa(1, 0, 0, 9, 1, 9);
        x.enter(1, 0);
        Check.due("by the lowest", x.about(1, 3), 0);
        x.pass(1);
        Check.due("its last day", x.status(1), VISITOR);
        x.pass(1);
        Check.due("the other visa does not do", x.status(1), OVERSTAYED);
        Check.due("nor is it taken", x.ofVisa(1, 1), 9);
        x.leave(1);
        Check.due("none abroad", x.about(1, 3), NONE);
        x.enter(1, 0);
        Check.due("by the other one then", x.about(1, 3), 1);

        PassageCourt z = two();
        z.visa(0, 0, 0, 9, 2, 9);
        z.waive(0, 2, true);
        z.enter(0, 0);
        Check.due("it came by none", z.about(0, 3), NONE);
        z.waive(0, 2, false);
        z.pass(1);
        Check.due("so it has none", z.status(0), OVERSTAYED);
        z.leave(0);
        z.enter(0, 0);
        Check.due("it came by it", z.about(0, 3), 0);
        z.waive(0, 2, true);
        z.pass(1);
        Check.due("free now, it came by it still", z.about(0, 3), 0);
        z.waive(0, 2, false);
        z.pass(1);
        Check.due("and needs it again", z.status(0), VISITOR);
        Check.due("its days: 2 of 3", z.ofVisa(0, 1), 7);
    }

    // "and is good for so many entries"
    private static void visaForSoManyEntries() {
        for (int entries = 1; entries <= 9; entries += 4) {
            PassageCourt x = two();
            x.visa(1, 0, 0, 99, entries, 90);
            for (int i = 1; i <= entries; i++) {
                Check.due("entry " + i, x.enter(1, 0), 0);
                Check.due("left", x.ofVisa(0, 0), entries - i);
                x.leave(1);
            }
            Check.due("none left", x.enter(1, 0), 2);
            Check.due("not below 0", x.ofVisa(0, 0), 0);
            Check.due("a day", x.ofVisa(0, 1), 89);
        }
    }

    // "and so many days on which one was looked at as a VISITOR by it"
    private static void visaForSoManyDays() {
        for (int days = 1; days <= 90; days += 89) {
            PassageCourt x = two();
            x.visa(1, 0, 0, 3600, 2, days);
            x.enter(1, 0);
            for (int i = 1; i <= days; i++) {
                Check.due("day " + i, x.status(1), VISITOR);
                Check.due("left", x.ofVisa(0, 1), days - i);
                x.pass(1);
            }
            Check.due("none left", x.status(1), OVERSTAYED);
            Check.due("not below 0", x.ofVisa(0, 1), 0);
            x.leave(1);
            Check.due("an entry, but no day", x.reason(1, 1), 2);
        }
    }

    // "each once; on a day that is taken it does still"
    private static void visaDayOnce() {
        PassageCourt x = two();
        x.visa(1, 0, 0, 99, 3, 2);
        x.enter(1, 0);
        Check.due("the day of entering", x.ofVisa(0, 1), 1);
        x.move(1, 1);
        x.leave(1);
        x.enter(1, 1);
        x.move(1, 0);
        Check.due("once", x.ofVisa(0, 1), 1);
        x.pass(1);
        Check.due("the last one", x.ofVisa(0, 1), 0);
        Check.due("it does", x.status(1), VISITOR);
        Check.due("it does for a move", x.move(1, 1), VISITOR);
        Check.due("at the border, with an entry", x.reason(1, 0), 0);
        x.leave(1);
        Check.due("and again", x.enter(1, 0), 0);
        Check.due("a visitor", x.status(1), VISITOR);
        Check.due("without an entry", x.reason(1, 0), 2);
        x.pass(1);
        Check.due("not on the next day", x.status(1), OVERSTAYED);
        Check.due("nor for a move", x.move(1, 1), OVERSTAYED);
    }

    // "not free of visas": days on which it is not needed are not taken
    private static void visaDaysNotTaken() {
        PassageCourt x = two();
        x.visa(1, 0, 0, 99, 3, 9);
        x.enter(1, 0);
        Check.due("taken", x.ofVisa(0, 1), 8);
        x.nation(1, 2, true);
        x.waive(0, 2, true);
        x.pass(1);
        Check.due("free of visas", x.ofVisa(0, 1), 8);
        Check.due("moved to where it is not", x.move(1, 1), VISITOR);
        Check.due("taken", x.ofVisa(0, 1), 7);
        x.nation(1, 1, true);
        x.pass(1);
        Check.due("NATIONAL", x.ofVisa(0, 1), 7);
        x.nation(1, 1, false);
        x.rule(3, 0, 1);
        x.pass(1);
        Check.due("without days left", x.status(1), OVERSTAYED);
        Check.due("OVERSTAYED", x.ofVisa(0, 1), 7);
        x.rule(4, 90, 180);
        x.pass(1);
        Check.due("a VISITOR again", x.ofVisa(0, 1), 6);
        x.leave(1);
        x.pass(1);
        Check.due("abroad", x.ofVisa(0, 1), 6);

        PassageCourt z = permitOf(0);
        z.visa(1, 0, 360, 999, 1, 9);
        z.enter(1, 0);
        z.move(1, 1);
        Check.due("RESIDENT, then free by the permit", z.ofVisa(0, 0) * 10 + z.ofVisa(0, 1), 19);
        Check.due("a visitor", z.status(1), VISITOR);
    }

    // "Who enters is asked, and may not for the first of these reasons"
    private static void firstOfTheReasons() {
        for (int bits = 0; bits < 8; bits++) {
            PassageCourt x = two();
            x.waive(0, 2, (bits & 2) == 0);
            if ((bits & 1) != 0) {
                x.ban(0, 0, 1);
            }
            if ((bits & 4) != 0) {
                x.rule(0, 0, 1);
            }
            int due = (bits & 1) != 0 ? 1 : (bits & 2) != 0 ? 2 : (bits & 4) != 0 ? 3 : 0;
            Check.due("reason, of " + bits, x.reason(0, 0), due);
            Check.due("enter, of " + bits, x.enter(0, 0), due);
            Check.due("there", x.about(0, 0), due == 0 ? 0 : NONE);
        }
    }

    // "and neither NATIONAL nor RESIDENT there"
    private static void nationalAndResidentAreNotAsked() {
        PassageCourt x = permitOf(0);
        x.nation(0, 0, true);
        x.rule(360, 0, 1);
        for (int person = 0; person < 2; person++) {
            for (int land = 0; land < 4; land++) {
                x.ban(land, person, 720);
            }
            Check.due("banned by all, no visa, no days", x.reason(person, 0), 0);
            Check.due("not there", x.reason(person, 1), 1);
            Check.due("in", x.enter(person, 0), 0);
            x.leave(person);
        }
        Check.passTo(x, 360, 719);
        Check.due("the last day of the permit", x.reason(1, 0), 0);
        x.pass(1);
        Check.due("the day behind it", x.reason(1, 0), 1);
        Check.due("of that nation still", x.reason(0, 0), 0);
        x.nation(0, 0, false);
        Check.due("not any more", x.reason(0, 0), 1);
    }

    // "one for the land, valid today, with an entry and a day left, or that of today taken already"
    private static void visaThatWouldDo() {
        PassageCourt x = two();
        x.pass(5);
        x.visa(0, 0, 5, 9, 1, 1);
        Check.due("of another person", x.reason(1, 0), 2);
        x.visa(1, 2, 5, 9, 1, 1);
        Check.due("for another land", x.reason(1, 0), 2);
        x.visa(1, 0, 6, 9, 1, 1);
        Check.due("not valid yet", x.reason(1, 0), 2);
        Check.due("that does outside", x.reason(1, 2), 0);
        x.visa(1, 1, 5, 5, 2, 1);
        Check.due("valid today", x.enter(1, 0), 0);
        Check.due("that", x.about(1, 3), 3);
        x.leave(1);
        Check.due("no day left, but that of today", x.enter(1, 0), 0);
        x.leave(1);
        Check.due("no entry left", x.enter(1, 0), 2);
        x.pass(1);
        Check.due("tomorrow's", x.enter(1, 0), 0);
        Check.due("that", x.about(1, 3), 2);
    }

    // "the lowest such is taken, when it is needed, and has an entry less then"
    private static void lowestVisaWhenNeeded() {
        PassageCourt x = two();
        x.visa(1, 0, 4, 9, 1, 9);
        x.visa(1, 0, 0, 9, 1, 1);
        x.visa(1, 1, 0, 9, 2, 9);
        x.visa(1, 0, 0, 9, 9, 90);
        int[] due = {1, 2, 2, 3};
        for (int i = 0; i < due.length; i++) {
            int entries = x.ofVisa(due[i], 0);
            Check.due("entry " + i, x.enter(1, 0), 0);
            Check.due("the lowest that would do", x.about(1, 3), due[i]);
            Check.due("an entry less", x.ofVisa(due[i], 0), entries - 1);
            x.leave(1);
        }
        x.pass(4);
        x.enter(1, 0);
        Check.due("one that is valid now", x.about(1, 3), 0);
        x.leave(1);
        x.nation(1, 2, true);
        x.waive(0, 2, true);
        x.enter(1, 0);
        Check.due("not needed", x.about(1, 3), NONE);
        x.leave(1);
        x.waive(0, 2, false);
        x.rule(4, 0, 1);
        Check.due("needed, but no days left", x.enter(1, 0), 3);
        Check.due("not taken", x.ofVisa(3, 0), 8);
        x.nation(1, 0, true);
        Check.due("NATIONAL", x.enter(1, 0), 0);
        Check.due("not needed", x.about(1, 3), NONE);
        Check.due("not taken", x.ofVisa(3, 0), 8);
    }

    // "Moving needs nothing: the visa stays by which one came."
    private static void movingNeedsNothing() {
        PassageCourt x = two();
        x.visa(1, 0, 0, 2, 1, 2);
        x.enter(1, 0);
        x.ban(1, 1, 9);
        Check.due("banned there", x.move(1, 1), VISITOR);
        Check.due("by the visa", x.about(1, 3), 0);
        Check.due("no entry for it", x.ofVisa(0, 0), 0);
        x.pass(2);
        Check.due("without a day left", x.status(1), OVERSTAYED);
        Check.due("moves", x.move(1, 0), OVERSTAYED);
        x.rule(2, 0, 1);
        Check.due("without days left", x.move(1, 1), OVERSTAYED);
        Check.due("by the visa still", x.about(1, 3), 0);
        PassageCourt z = two();
        z.slip(0, 0);
        z.waive(1, 2, true);
        Check.due("one who slipped in is still one who did", z.move(0, 1), OVERSTAYED);
        z.nation(0, 1, true);
        Check.due("moves there and back", z.move(0, 0), OVERSTAYED);
        Check.due("but may be NATIONAL", z.move(0, 1), PassageCourt.NATIONAL);
        z.nation(0, 1, false);
        z.pass(1);
        Check.due("and has slipped in still", z.status(0), OVERSTAYED);
    }

    // "banned by any land, as far as this one knows"; "The land that makes a ban knows it at once, and so do ..."
    private static void bannedByAnyLandAsFarAsKnown() {
        int[] late = {5, 30, 2, 0};
        for (int maker = 0; maker < 4; maker++) {
            PassageCourt x = two();
            x.pass(7);
            x.ban(maker, 0, 720);
            x.nation(0, 2, false);
            for (int day = 7; day < 40; day++) {
                for (int k = 0; k < 4; k++) {
                    boolean isKnown = k == maker || k < 2 && maker < 2 || day >= 7 + late[k];
                    String what = "made by " + maker + ", in " + k + " on the day " + day;
                    Check.due(what, x.banned(maker, 0, k), isKnown ? 726 : NONE);
                    Check.due(what + ", asked", x.reason(0, k), isKnown ? 1 : 2);
                }
                x.pass(1);
            }
        }
    }

    // "is banned by the land out of which it goes for 10 times as many days, .. at most 720"
    private static void bannedTenTimesAsLong() {
        int[] days = {1, 2, 71, 72, 73, 100};
        int[] bans = {10, 20, 710, 720, 720, 720};
        for (int i = 0; i < days.length; i++) {
            PassageCourt x = two();
            x.slip(1, 3);
            if (days[i] > 1) {
                x.pass(days[i] - 1);
            }
            Check.due("days of OVERSTAYED", x.about(1, 4), days[i]);
            int last = days[i] - 1 + bans[i];
            Check.due("the last day", x.leave(1), last);
            Check.due("of the land out of which it goes", x.banned(3, 1, 3), last);
            Check.due("of no other", x.banned(0, 1, 0), NONE);
            Check.passTo(x, days[i] - 1, last);
            Check.due("banned on the last day", x.reason(1, 3), 1);
            Check.due("known on the last day", x.banned(3, 1, 0), last);
            x.pass(1);
            Check.due("not behind it", x.reason(1, 3), 2);
            Check.due("it is over", x.banned(3, 1, 3), NONE);
        }
        PassageCourt x = two();
        x.waive(0, 2, true);
        x.enter(0, 0);
        x.pass(89);
        Check.due("not a day", x.about(0, 4), 0);
        Check.due("no ban", x.leave(0), NONE);
        Check.due("none", x.lift(0, 0), false);
    }

    // "was OVERSTAYED on some days of this stay"
    private static void bannedForDaysOfThisStay() {
        PassageCourt x = two();
        x.waive(0, 2, true);
        x.slip(0, 0);
        x.pass(2);
        x.leave(0);
        x.lift(0, 0);
        Check.due("another stay, on the day of leaving", x.enter(0, 0), 0);
        Check.due("none of this stay", x.about(0, 4), 0);
        x.pass(1);
        x.waive(0, 2, false);
        x.pass(1);
        Check.due("one of this stay", x.about(0, 4), 1);
        x.move(0, 1);
        x.waive(1, 2, true);
        x.pass(1);
        Check.due("a visitor again", x.status(0), VISITOR);
        Check.due("one of this stay still", x.about(0, 4), 1);
        Check.due("by the land out of which it goes", x.leave(0), 15);
        Check.due("not by the other", x.banned(0, 0, 0), NONE);
        Check.due("0 abroad", x.about(0, 4), 0);
    }

    // "from the day behind today on (not yet on that of leaving)"
    private static void bannedFromTheDayBehind() {
        PassageCourt x = two();
        x.waive(0, 2, true);
        x.slip(0, 0);
        Check.due("ten days", x.leave(0), 10);
        Check.due("it stands already", x.banned(0, 0, 1), 10);
        Check.due("not yet", x.enter(0, 0), 0);
        x.leave(0);
        x.pass(1);
        Check.due("the day behind", x.enter(0, 0), 1);
        x.pass(9);
        Check.due("its last day", x.enter(0, 0), 1);
        x.pass(1);
        Check.due("over", x.enter(0, 0), 0);
        PassageCourt z = two();
        z.ban(0, 0, 1);
        Check.due("one that is made holds today", z.reason(0, 0), 1);
        z.pass(1);
        Check.due("a day", z.reason(0, 0), 2);
        Check.due("a ban of today, where one has left", leftAndBanned().reason(0, 0), 1);
    }

    private static PassageCourt leftAndBanned() {
        PassageCourt x = two();
        x.slip(0, 0);
        x.leave(0);
        Check.due("ends a day later", x.ban(0, 0, 12), 11);
        return x;
    }

    // "Of two bans of a land for a person the one that ends later stands alone, of like ones the one ahead"
    private static void theBanThatEndsLater() {
        PassageCourt x = two();
        Check.due("first", x.ban(0, 0, 10), 9);
        x.pass(1);
        Check.due("a day less", x.ban(0, 0, 8), 9);
        Check.due("alike", x.ban(0, 0, 9), 9);
        Check.due("a day more", x.ban(0, 0, 10), 10);
        Check.due("of another land", x.ban(1, 0, 3), 3);
        Check.due("of another person", x.ban(0, 1, 3), 3);
        Check.due("the first stands", x.banned(0, 0, 0), 10);
        x.pass(10);
        Check.due("over", x.banned(0, 0, 0), NONE);
        Check.due("behind one that is over", x.ban(0, 0, 1), 11);
        PassageCourt z = two();
        z.slip(0, 0);
        z.ban(0, 0, 10);
        Check.due("ends ahead of that of leaving", z.leave(0), 10);
        Check.due("so that stands alone: from tomorrow", z.reason(0, 0), 2);
        PassageCourt w = two();
        w.slip(0, 0);
        w.ban(0, 0, 11);
        Check.due("ends with that of leaving", w.leave(0), 10);
        Check.due("the one ahead: from today", w.reason(0, 0), 1);
        PassageCourt v = two();
        v.slip(0, 0);
        v.ban(0, 0, 12);
        Check.due("ends behind that of leaving", v.leave(0), 11);
    }

    // "others hear of it by the day on which it was made"
    private static void theBanThatEndsLaterIsHeardOfAnew() {
        for (int days = 17; days <= 19; days++) {
            PassageCourt x = two();
            x.ban(0, 0, 20);
            x.pass(2);
            Check.due("land 2 hears two days late", x.banned(0, 0, 2), 19);
            Check.due("the later end", x.ban(0, 0, days), days == 19 ? 20 : 19);
            Check.due("heard of when it ends no later", x.banned(0, 0, 2), days == 19 ? NONE : 19);
            x.pass(1);
            Check.due("a day later", x.banned(0, 0, 2), days == 19 ? NONE : 19);
            x.pass(1);
            Check.due("two days later", x.banned(0, 0, 2), days == 19 ? 20 : 19);
        }
        PassageCourt z = two();
        z.slip(1, 0);
        z.pass(4);
        z.leave(1);
        z.pass(1);
        Check.due("one of leaving: a day ahead of hearing", z.banned(0, 1, 2), NONE);
        z.pass(1);
        Check.due("made on the day of leaving", z.banned(0, 1, 2), 54);
    }

    // "It can be lifted by the land that made it, which all know at once."
    private static void liftedForAll() {
        PassageCourt x = two();
        x.ban(0, 0, 10);
        x.ban(3, 0, 10);
        x.pass(9);
        Check.due("land 1 made none", x.lift(1, 0), false);
        Check.due("it stands", x.banned(0, 0, 2), 9);
        Check.due("on its last day", x.lift(0, 0), true);
        for (int k = 0; k < 4; k++) {
            Check.due("known at once", x.banned(0, 0, k), NONE);
            Check.due("that of the other stands", x.banned(3, 0, k), k == 1 ? NONE : 9);
        }
        Check.due("lifted once", x.lift(0, 0), false);
        x.pass(1);
        Check.due("the day behind its last", x.lift(3, 0), false);
        x.slip(0, 0);
        x.leave(0);
        Check.due("one that is not yet", x.lift(0, 0), true);
        x.pass(1);
        Check.due("never comes", x.reason(0, 0), 2);
        x.ban(0, 0, 720);
        x.lift(0, 0);
        Check.due("the next one stands alone", x.ban(0, 0, 1), 11);
    }
}
