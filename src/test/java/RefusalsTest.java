/**
 * Each throws line of promises 2 to 33: each thing that it names, alone, and of several lines that apply the first one.
 * That a refused call changes nothing is looked at in each of them.
 */
public final class RefusalsTest {
    private static final Class<?> NO_SUCH = IndexOutOfBoundsException.class;
    private static final Class<?> WRONG = IllegalArgumentException.class;
    private static final Class<?> STATE = IllegalStateException.class;

    public static void main(String[] args) {
        landsAndRules();
        persons();
        births();
        visas();
        entering();
        moving();
        bans();
        quotasAndRequests();
        joining();
        requestsInEachState();
        extending();
        oaths();
        days();
        whatThereIs();
        questionsChangeNothing();
        enteringInVainChangesNothing();
        Check.end();
    }

    private static void landsAndRules() {
        Check.refused("a ninth land", STATE, Scene::full, x -> x.land(true, true, true, 30));
        Check.refused("late ahead of a ninth land", WRONG, Scene::full, x -> x.land(true, true, true, 31));
        Check.refused("late ahead of a ninth land, below", WRONG, Scene::full, x -> x.land(false, false, false, -1));
        Check.refused("the same land twice", WRONG, Scene::abroad, x -> x.waive(3, 3, true));
        Check.refused("the same land twice, not", WRONG, Scene::abroad, x -> x.waive(0, 0, false));
        Check.refused("no such land ahead of the same", NO_SUCH, Scene::abroad, x -> x.waive(4, 4, true));
        Check.refused("no such land ahead of the same, below", NO_SUCH, Scene::abroad, x -> x.waive(-1, -1, false));
        Check.refused("an 11th rule", STATE, Scene::full, x -> x.rule(10, 180, 360));
        Check.refused("day ahead of an 11th rule", WRONG, Scene::full, x -> x.rule(9, 1, 1));
        Check.refused("most ahead of an 11th rule", WRONG, Scene::full, x -> x.rule(10, 181, 360));
        Check.refused("window ahead of an 11th rule", WRONG, Scene::full, x -> x.rule(10, 0, 0));
        Check.taken("the last land that is free", RefusalsTest::sevenLands, x -> x.land(true, true, true, 30));
        Check.taken("the last rule that is free", RefusalsTest::nineRules, x -> x.rule(0, 0, 1));
    }

    private static PassageCourt sevenLands() {
        PassageCourt x = Scene.empty();
        for (int i = 0; i < 7; i++) {
            x.land(true, true, true, 0);
        }
        return x;
    }

    private static PassageCourt nineRules() {
        PassageCourt x = Scene.empty();
        for (int i = 2; i <= 9; i++) {
            Check.due("rules then", x.rule(i, i, i), i);
        }
        return x;
    }

    private static void persons() {
        Check.refused("a 17th", STATE, Scene::full, x -> x.person(0, 0));
        Check.refused("a stateless 17th", STATE, Scene::full, x -> x.person(PassageCourt.NONE, 99));
        Check.refused("age ahead of a 17th", WRONG, Scene::full, x -> x.person(0, 100));
        Check.refused("no such land ahead of a 17th", NO_SUCH, Scene::full, x -> x.person(8, 0));
        Check.refused("no such land ahead of age and a 17th", NO_SUCH, Scene::full, x -> x.person(-2, -1));
        Check.refused("no such land ahead of age", NO_SUCH, Scene::abroad, x -> x.person(4, 100));
        Check.refused("age of a stateless one", WRONG, Scene::abroad, x -> x.person(PassageCourt.NONE, -1));
        Check.taken("the 16th", RefusalsTest::fifteen, x -> x.person(0, 99));
        Check.taken("the 16th, born", RefusalsTest::fifteen, x -> x.birth(0, 14));
    }

    private static PassageCourt fifteen() {
        PassageCourt x = Scene.region();
        for (int i = 5; i < 15; i++) {
            x.person(0, i);
        }
        return x;
    }

    private static PassageCourt sixteenth() {
        PassageCourt x = fifteen();
        Check.due("the 16th", x.birth(0, PassageCourt.NONE), 15);
        return x;
    }

    private static void births() {
        Check.refused("a 17th, born", STATE, RefusalsTest::sixteenth, x -> x.birth(0, PassageCourt.NONE));
        Check.refused("the mother abroad", STATE, Scene::abroad, x -> x.birth(0, PassageCourt.NONE));
        Check.refused("the mother abroad, not the father", STATE, RefusalsTest::sixteenth, x -> x.birth(14, 0));
        Check.refused("both the same", WRONG, Scene::inside, x -> x.birth(2, 2));
        Check.refused("both the same ahead of abroad", WRONG, Scene::abroad, x -> x.birth(2, 2));
        Check.refused("both the same ahead of a 17th", WRONG, Scene::full, x -> x.birth(15, 15));
        Check.refused("no such mother ahead of the same", NO_SUCH, Scene::inside, x -> x.birth(5, 5));
        Check.refused("NONE is no mother", NO_SUCH, Scene::inside, x -> x.birth(PassageCourt.NONE, PassageCourt.NONE));
        Check.refused("no such mother ahead of a 17th", NO_SUCH, Scene::full, x -> x.birth(16, 0));
        Check.refused("no such father ahead of abroad", NO_SUCH, Scene::abroad, x -> x.birth(0, 5));
        Check.refused("no such father ahead of a 17th", NO_SUCH, Scene::full, x -> x.birth(0, -2));
        Check.taken("the father abroad", Scene::region, x -> { x.leave(1); x.birth(0, 1); });
    }

    private static void visas() {
        Check.refused("a 61st", STATE, Scene::full, x -> x.visa(0, 0, 10, 3600, 9, 90));
        Check.refused("first ahead of a 61st", WRONG, Scene::full, x -> x.visa(0, 0, 9, 20, 1, 1));
        Check.refused("last ahead of a 61st", WRONG, Scene::full, x -> x.visa(0, 0, 20, 19, 1, 1));
        Check.refused("entries ahead of a 61st", WRONG, Scene::full, x -> x.visa(0, 0, 10, 20, 0, 1));
        Check.refused("days ahead of a 61st", WRONG, Scene::full, x -> x.visa(0, 0, 10, 20, 1, 91));
        Check.refused("no such person ahead of a 61st", NO_SUCH, Scene::full, x -> x.visa(16, 0, 10, 20, 1, 1));
        Check.refused("no such land ahead of a 61st", NO_SUCH, Scene::full, x -> x.visa(0, 8, 10, 20, 1, 1));
        Check.refused("no such person ahead of first", NO_SUCH, Scene::abroad, x -> x.visa(5, 0, 9, 20, 1, 1));
        Check.refused("no such person ahead of last", NO_SUCH, Scene::abroad, x -> x.visa(-1, 0, 20, 19, 1, 1));
        Check.refused("no such land ahead of entries", NO_SUCH, Scene::abroad, x -> x.visa(0, 4, 10, 20, 0, 1));
        Check.refused("no such land ahead of days", NO_SUCH, Scene::abroad, x -> x.visa(0, -1, 10, 20, 1, 0));
        Check.taken("the 60th", RefusalsTest::visas59, x -> x.visa(0, 0, 0, 0, 1, 1));
    }

    private static PassageCourt visas59() {
        PassageCourt x = Scene.five();
        for (int i = 0; i < 59; i++) {
            Check.due("visas from 0", x.visa(0, 0, 0, 0, 1, 1), i);
        }
        return x;
    }

    private static void entering() {
        Check.refused("in this land", STATE, Scene::inside, x -> x.enter(2, 0));
        Check.refused("in another land", STATE, Scene::inside, x -> x.enter(1, 0));
        Check.refused("one who slipped in", STATE, Scene::inside, x -> x.enter(4, 0));
        Check.refused("no such land ahead of being in one", NO_SUCH, Scene::inside, x -> x.enter(2, 4));
        Check.refused("no such person, no such land", NO_SUCH, Scene::inside, x -> x.enter(5, 4));
        Check.taken("abroad", Scene::abroad, x -> x.enter(2, 0));
        Check.refused("slips into this land", STATE, Scene::inside, x -> x.slip(2, 0));
        Check.refused("slips into another land", STATE, Scene::inside, x -> x.slip(1, 2));
        Check.refused("no such land ahead of being in one, slips", NO_SUCH, Scene::inside, x -> x.slip(2, -1));
        Check.taken("slips from abroad", Scene::abroad, x -> x.slip(1, 0));
    }

    private static void moving() {
        Check.refused("from abroad", STATE, Scene::abroad, x -> x.move(2, 0));
        Check.refused("to the same land", STATE, Scene::inside, x -> x.move(2, 0));
        Check.refused("out of the region", STATE, Scene::inside, x -> x.move(2, 2));
        Check.refused("into the region", STATE, Scene::inside, x -> x.move(1, 0));
        Check.refused("from outside to outside", STATE, Scene::inside, x -> x.move(1, 2));
        Check.refused("to the same land outside", STATE, Scene::inside, x -> x.move(1, 3));
        Check.refused("no such land ahead of abroad", NO_SUCH, Scene::abroad, x -> x.move(2, 4));
        Check.refused("no such land ahead of outside", NO_SUCH, Scene::inside, x -> x.move(1, -1));
        Check.refused("no such person ahead of outside", NO_SUCH, Scene::inside, x -> x.move(-1, 2));
        Check.taken("in the region", Scene::inside, x -> x.move(2, 1));
        Check.refused("leaves from abroad", STATE, Scene::abroad, x -> x.leave(2));
        Check.refused("leaves twice", STATE, RefusalsTest::hasLeft, x -> x.leave(2));
        Check.taken("leaves", Scene::inside, x -> x.leave(2));
    }

    private static PassageCourt hasLeft() {
        PassageCourt x = Scene.inside();
        x.leave(2);
        return x;
    }

    private static void bans() {
        Check.refused("no such land ahead of days", NO_SUCH, Scene::inside, x -> x.ban(4, 0, 0));
        Check.refused("no such person ahead of days", NO_SUCH, Scene::inside, x -> x.ban(0, 5, 721));
        Check.refused("days of one who is banned for longer", WRONG, Scene::inside, x -> x.ban(2, 4, 0));
        Check.refused("no such land, no such person", NO_SUCH, Scene::inside, x -> x.lift(4, 5));
        Check.unchanged("lifting what there is not", Scene::inside, x -> x.lift(0, 4));
        Check.unchanged("a ban that ends earlier", Scene::inside, x -> x.ban(2, 4, 1));
    }

    private static void quotasAndRequests() {
        Check.refused("no such land ahead of type", NO_SUCH, Scene::abroad, x -> x.quota(4, 3, 1));
        Check.refused("no such land ahead of quota", NO_SUCH, Scene::abroad, x -> x.quota(-1, 0, 10));
        Check.refused("type and quota", WRONG, Scene::abroad, x -> x.quota(0, 3, 10));
        Check.refused("a 41st", STATE, Scene::full, x -> x.ask(0, 6, 0));
        Check.refused("of that nation", STATE, Scene::abroad, x -> x.ask(0, 2, 0));
        Check.refused("has one WAITING, another class", STATE, Scene::abroad, x -> x.ask(0, 0, 2));
        Check.refused("has one REFUSED", STATE, Scene::abroad, x -> x.ask(1, 0, 1));
        Check.refused("has one APPEALED", STATE, Scene::abroad, x -> x.ask(3, 0, 1));
        Check.taken("has one that is OVER", Scene::abroad, x -> x.ask(4, 0, 2));
        Check.taken("has one that is GRANTED", Scene::granted, x -> x.ask(0, 0, 0));
        Check.taken("follows another one", Scene::granted, x -> x.ask(1, 0, 0));
        Check.taken("has one of another land", Scene::abroad, x -> x.ask(0, 1, 0));
        Check.taken("of another nation", Scene::abroad, x -> x.ask(2, 1, 0));
        Check.refused("type ahead of a 41st", WRONG, Scene::full, x -> x.ask(0, 6, 3));
        Check.refused("type ahead of that nation", WRONG, Scene::abroad, x -> x.ask(0, 2, -1));
        Check.refused("type ahead of one WAITING", WRONG, Scene::abroad, x -> x.ask(0, 0, 3));
        Check.refused("no such person ahead of type", NO_SUCH, Scene::abroad, x -> x.ask(5, 0, 3));
        Check.refused("no such land ahead of type", NO_SUCH, Scene::abroad, x -> x.ask(0, 4, 3));
        Check.refused("no such land ahead of a 41st", NO_SUCH, Scene::full, x -> x.ask(0, 8, 0));
        Check.taken("the 40th", RefusalsTest::requests39, x -> x.ask(0, 1, 2));
        Check.refused("not a 41st", STATE, RefusalsTest::requests40, x -> x.ask(1, 1, 2));
    }

    private static PassageCourt requests39() {
        PassageCourt x = Scene.five();
        for (int i = 0; i < 39; i++) {
            Check.due("requests from 0", x.ask(0, 0, 0), i);
            x.withdraw(i);
        }
        return x;
    }

    private static PassageCourt requests40() {
        PassageCourt x = requests39();
        x.ask(0, 0, 0);
        return x;
    }

    private static PassageCourt threeFollow() {
        PassageCourt x = Scene.abroad();
        x.join(0, 2);
        x.join(0, 3);
        return x;
    }

    private static void joining() {
        Check.refused("for whom it is", STATE, Scene::abroad, x -> x.join(0, 0));
        Check.refused("has joined it", STATE, Scene::abroad, x -> x.join(0, 1));
        Check.refused("a fourth", STATE, RefusalsTest::threeFollow, x -> x.join(0, 4));
        Check.refused("one of the three", STATE, RefusalsTest::threeFollow, x -> x.join(0, 3));
        Check.taken("the third", Scene::abroad, x -> { x.join(0, 2); x.join(0, 4); });
        Check.refused("REFUSED", STATE, Scene::abroad, x -> x.join(1, 2));
        Check.refused("APPEALED", STATE, Scene::abroad, x -> x.join(2, 1));
        Check.refused("OVER", STATE, Scene::abroad, x -> x.join(3, 2));
        Check.refused("GRANTED", STATE, Scene::granted, x -> x.join(0, 3));
        Check.refused("no such person ahead of OVER", NO_SUCH, Scene::abroad, x -> x.join(3, 5));
        Check.refused("no such request, no such person", NO_SUCH, Scene::abroad, x -> x.join(4, 5));
        Check.refused("no such person ahead of a fourth", NO_SUCH, RefusalsTest::threeFollow, x -> x.join(0, -1));
    }

    private static void requestsInEachState() {
        int[] states = {PassageCourt.WAITING, PassageCourt.REFUSED, PassageCourt.APPEALED, PassageCourt.OVER};
        for (int i = 0; i < states.length; i++) {
            int number = i;
            Check.due("the state of " + i, Scene.abroad().ofRequest(i, 0), states[i]);
            only(number == 0, "refuse " + i, x -> x.refuse(number));
            only(number == 1, "appeal " + i, x -> x.appeal(number));
            only(number == 2, "judge good " + i, x -> x.judge(number, true));
            only(number == 2, "judge not good " + i, x -> x.judge(number, false));
            only(number == 0, "withdraw " + i, x -> x.withdraw(number));
        }
        Check.refused("refuse GRANTED", STATE, Scene::granted, x -> x.refuse(0));
        Check.refused("appeal GRANTED", STATE, Scene::granted, x -> x.appeal(0));
        Check.refused("judge GRANTED", STATE, Scene::granted, x -> x.judge(0, true));
        Check.refused("judge GRANTED, not good", STATE, Scene::granted, x -> x.judge(0, false));
        Check.refused("withdraw GRANTED", STATE, Scene::granted, x -> x.withdraw(0));
    }

    private static void only(boolean isThatOne, String what, Check.Act act) {
        if (isThatOne) {
            Check.taken(what, Scene::abroad, act);
        } else {
            Check.refused(what, STATE, Scene::abroad, act);
        }
    }

    private static void extending() {
        Check.refused("no permit", STATE, Scene::granted, x -> x.extend(3, 0));
        Check.refused("no permit of that land", STATE, Scene::granted, x -> x.extend(0, 1));
        Check.refused("a permit, never there", STATE, Scene::granted, x -> x.extend(2, 0));
        Check.refused("no permit, though there", STATE, RefusalsTest::permitIsOver, x -> x.extend(0, 0));
        Check.refused("no such person, no such land", NO_SUCH, Scene::granted, x -> x.extend(5, 4));
        Check.refused("no such land ahead of no permit", NO_SUCH, Scene::granted, x -> x.extend(3, 4));
        Check.refused("no such person ahead of no permit", NO_SUCH, Scene::granted, x -> x.extend(-1, 1));
        Check.taken("valid, and there", Scene::granted, x -> x.extend(1, 0));
    }

    private static PassageCourt permitIsOver() {
        PassageCourt x = Scene.granted();
        Check.passTo(x, 360, 720);
        return x;
    }

    private static PassageCourt abroadAfterYears() {
        PassageCourt x = Scene.threeYears();
        x.leave(0);
        return x;
    }

    private static PassageCourt movedAfterYears() {
        PassageCourt x = Scene.threeYears();
        x.move(0, 1);
        return x;
    }

    private static PassageCourt sworn() {
        PassageCourt x = Scene.threeYears();
        x.oath(0, 0);
        return x;
    }

    private static PassageCourt strangerThere() {
        PassageCourt x = Scene.threeYears();
        x.slip(3, 0);
        return x;
    }

    private static void oaths() {
        Check.refused("abroad", STATE, RefusalsTest::abroadAfterYears, x -> x.oath(0, 0));
        Check.refused("in another land", STATE, RefusalsTest::movedAfterYears, x -> x.oath(0, 0));
        Check.refused("of that nation already", STATE, RefusalsTest::sworn, x -> x.oath(0, 0));
        Check.refused("no permit", STATE, RefusalsTest::strangerThere, x -> x.oath(3, 0));
        Check.refused("no permit of that land", STATE, RefusalsTest::movedAfterYears, x -> x.oath(0, 1));
        Check.refused("a permit of today alone", STATE, Scene::granted, x -> x.oath(0, 0));
        Check.refused("no such land ahead of abroad", NO_SUCH, RefusalsTest::abroadAfterYears, x -> x.oath(0, 4));
        Check.refused("no such person ahead of that nation", NO_SUCH, RefusalsTest::sworn, x -> x.oath(5, 0));
        Check.taken("there, with such a permit", Scene::threeYears, x -> x.oath(1, 0));
    }

    private static PassageCourt day3501() {
        return Scene.onDay(3501);
    }

    private static PassageCourt day3600() {
        return Scene.onDay(3600);
    }

    private static void days() {
        Check.taken("to the last day", RefusalsTest::day3501, x -> x.pass(99));
        Check.refused("a day above it", STATE, RefusalsTest::day3501, x -> x.pass(100));
        Check.refused("out of range ahead of above it", WRONG, RefusalsTest::day3501, x -> x.pass(101));
        Check.refused("no day behind the last one", STATE, RefusalsTest::day3600, x -> x.pass(1));
        Check.refused("nor a hundred", STATE, RefusalsTest::day3600, x -> x.pass(100));
        Check.refused("no days, on the last one", WRONG, RefusalsTest::day3600, x -> x.pass(0));
        Check.refused("the most of days, on the last one", WRONG, RefusalsTest::day3600, x -> x.pass(Integer.MAX_VALUE));
    }

    private static void whatThereIs() {
        Check.refused("no such person ahead of what", NO_SUCH, Scene::inside, x -> x.about(5, 5));
        Check.refused("no such person ahead of what, below", NO_SUCH, Scene::inside, x -> x.about(-1, -1));
        Check.refused("no such person ahead of day", NO_SUCH, Scene::inside, x -> x.was(5, 13));
        Check.refused("no such person ahead of day, below", NO_SUCH, Scene::inside, x -> x.was(-1, -1));
        Check.refused("no such visa ahead of what", NO_SUCH, Scene::inside, x -> x.ofVisa(3, 3));
        Check.refused("no such visa ahead of what, below", NO_SUCH, Scene::inside, x -> x.ofVisa(-1, -1));
        Check.refused("no such request ahead of what", NO_SUCH, Scene::inside, x -> x.ofRequest(4, 4));
        Check.refused("no such request ahead of what, below", NO_SUCH, Scene::inside, x -> x.ofRequest(-1, -1));
        Check.refused("no such person, no such land", NO_SUCH, Scene::inside, x -> x.reason(5, 4));
        Check.refused("no such of any of them", NO_SUCH, Scene::inside, x -> x.banned(4, 5, 4));
    }

    private static void questionsChangeNothing() {
        for (int i = 0; i < 4; i++) {
            int n = i;
            Check.unchanged("status", Scene::inside, x -> x.status(n));
            Check.unchanged("about", Scene::inside, x -> x.about(4, n));
            Check.unchanged("about OVERSTAYED", Scene::inside, x -> x.about(n, 4));
            Check.unchanged("daysAnew", Scene::inside, x -> x.daysAnew(n));
            Check.unchanged("was", Scene::inside, x -> x.was(n, 12));
            Check.unchanged("reason", Scene::inside, x -> x.reason(4, n));
            Check.unchanged("banned", Scene::inside, x -> x.banned(2, 4, n));
            Check.unchanged("ofVisa", Scene::inside, x -> x.ofVisa(0, n));
            Check.unchanged("ofRequest", Scene::inside, x -> x.ofRequest(0, n));
            Check.unchanged("permit", Scene::granted, x -> x.permit(n, 0));
        }
    }

    private static PassageCourt noDays() {
        PassageCourt x = Scene.abroad();
        x.rule(10, 0, 1);
        return x;
    }

    private static void enteringInVainChangesNothing() {
        Check.due("banned", Scene.abroad().enter(4, 2), 1);
        Check.unchanged("banned", Scene::abroad, x -> x.enter(4, 2));
        Check.due("no visa", Scene.abroad().enter(1, 0), 2);
        Check.unchanged("no visa", Scene::abroad, x -> x.enter(1, 0));
        Check.due("no days left", noDays().enter(0, 0), 3);
        Check.unchanged("no days left", RefusalsTest::noDays, x -> x.enter(0, 0));
        Check.due("a visa, no days left", visaNoDays().enter(1, 0), 3);
        Check.unchanged("a visa, no days left", RefusalsTest::visaNoDays, x -> x.enter(1, 0));
    }

    private static PassageCourt visaNoDays() {
        PassageCourt x = noDays();
        x.visa(1, 1, 10, 20, 1, 1);
        return x;
    }
}
