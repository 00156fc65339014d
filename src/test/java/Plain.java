import java.util.ArrayList;
import java.util.List;
import java.util.TreeMap;
import java.util.TreeSet;

/**
 * The document told a second time, sentence by sentence and as slowly as it likes: it keeps facts alone (what each
 * day was looked at as, which days a visa was taken on, which bans were made and lifted) and finds each answer from them.
 */
final class Plain {
    private static final int NONE = -1, NATIONAL = 1, RESIDENT = 2, VISITOR = 3, OVERSTAYED = 4;
    private static final int WAITING = 0, GRANTED = 1, REFUSED = 2, APPEALED = 3, OVER = 4;

    private record Land(boolean inRegion, boolean bySoil, boolean byDescent, int late, TreeSet<Integer> waivesFor,
            int[] quotas) {
    }

    private record Rule(int day, int most, int window) {
    }

    private record Permit(int first, int last) {
    }

    private static final class Person {
        final TreeSet<Integer> nations = new TreeSet<>();
        final TreeMap<Integer, Permit> permits = new TreeMap<>();
        /** Of each day the land and the status there, as of the last look. */
        final int[] landOn = new int[3601];
        final int[] statusOn = new int[3601];
        int bornOn;
        int mother = NONE;
        int father = NONE;
        int land = NONE;
        int cameOn;
        boolean slipped;
        Visa cameBy;
    }

    private static final class Visa {
        int number;
        int person;
        int land;
        int first;
        int last;
        int entries;
        int days;
        final TreeSet<Integer> daysTaken = new TreeSet<>();
    }

    private record Ban(int land, int person, int made, int first, int last) {
    }

    private static final class Request {
        int number;
        int person;
        int land;
        int type;
        int date;
        int state = WAITING;
        int clock;
        final TreeSet<Integer> followers = new TreeSet<>();
    }

    private final List<Land> lands = new ArrayList<>();
    private final List<Person> persons = new ArrayList<>();
    private final List<Visa> visas = new ArrayList<>();
    private final List<Request> requests = new ArrayList<>();
    private final List<Rule> rules = new ArrayList<>();
    /** Those that were not lifted, in the order in which they were made. */
    private final List<Ban> bans = new ArrayList<>();
    private int today;

    Plain() {
        rules.add(new Rule(0, 90, 180));
    }

    int today() {
        return today;
    }

    int lands() {
        return lands.size();
    }

    int persons() {
        return persons.size();
    }

    int visas() {
        return visas.size();
    }

    int requests() {
        return requests.size();
    }

    // ---- what the calls ask of their arguments

    private static void noSuchUnless(boolean is) {
        if (!is) {
            throw new IndexOutOfBoundsException();
        }
    }

    private static void wrongUnless(boolean is) {
        if (!is) {
            throw new IllegalArgumentException();
        }
    }

    private static void stateUnless(boolean is) {
        if (!is) {
            throw new IllegalStateException();
        }
    }

    private static boolean isIn(int n, int first, int last) {
        return first <= n && n <= last;
    }

    private void isLand(int n) {
        noSuchUnless(isIn(n, 0, lands.size() - 1));
    }

    private void isPerson(int n) {
        noSuchUnless(isIn(n, 0, persons.size() - 1));
    }

    private void isRequest(int n) {
        noSuchUnless(isIn(n, 0, requests.size() - 1));
    }

    private void isVisa(int n) {
        noSuchUnless(isIn(n, 0, visas.size() - 1));
    }

    // ---- promises 2 to 8

    public int land(boolean isInRegion, boolean bySoil, boolean byDescent, int late) {
        wrongUnless(isIn(late, 0, 30));
        stateUnless(lands.size() < 8);
        lands.add(new Land(isInRegion, bySoil, byDescent, late, new TreeSet<>(), new int[3]));
        return lands.size() - 1;
    }

    public boolean waive(int land, int nation, boolean is) {
        isLand(land);
        isLand(nation);
        wrongUnless(land != nation);
        TreeSet<Integer> waivesFor = lands.get(land).waivesFor();
        return is ? !waivesFor.add(nation) : waivesFor.remove(nation);
    }

    public int rule(int day, int most, int window) {
        wrongUnless(isIn(day, today, 3600) && isIn(most, 0, 180) && isIn(window, 1, 360));
        stateUnless(rules.size() < 10);
        rules.add(new Rule(day, most, window));
        return rules.size();
    }

    public int person(int nation, int age) {
        if (nation != NONE) {
            isLand(nation);
        }
        wrongUnless(isIn(age, 0, 99));
        stateUnless(persons.size() < 16);
        Person told = new Person();
        told.bornOn = today - 360 * age;
        if (nation != NONE) {
            told.nations.add(nation);
        }
        persons.add(told);
        return persons.size() - 1;
    }

    public int birth(int mother, int father) {
        isPerson(mother);
        if (father != NONE) {
            isPerson(father);
        }
        wrongUnless(mother != father);
        int here = persons.get(mother).land;
        stateUnless(here != NONE && persons.size() < 16);
        List<Person> parents = new ArrayList<>(List.of(persons.get(mother)));
        if (father != NONE) {
            parents.add(persons.get(father));
        }
        Person child = new Person();
        child.bornOn = today;
        child.mother = mother;
        child.father = father;
        for (Person parent : parents) {
            for (int nation : parent.nations) {
                if (lands.get(nation).byDescent()) {
                    child.nations.add(nation);
                }
            }
            if (lands.get(here).bySoil() && (parent.nations.contains(here) || hasPermit(parent, here))) {
                child.nations.add(here);
            }
        }
        persons.add(child);
        come(child, here, false, null);
        return persons.size() - 1;
    }

    public int nation(int person, int nation, boolean is) {
        isPerson(person);
        isLand(nation);
        TreeSet<Integer> nations = persons.get(person).nations;
        if (is) {
            nations.add(nation);
        } else {
            nations.remove(nation);
        }
        return about(person, 1);
    }

    public int visa(int person, int land, int first, int last, int entries, int days) {
        isPerson(person);
        isLand(land);
        wrongUnless(isIn(first, today, 3600) && isIn(last, first, 3600) && isIn(entries, 1, 9) && isIn(days, 1, 90));
        stateUnless(visas.size() < 60);
        Visa given = new Visa();
        given.number = visas.size();
        given.person = person;
        given.land = land;
        given.first = first;
        given.last = last;
        given.entries = entries;
        given.days = days;
        visas.add(given);
        return given.number;
    }

    // ---- promises 9 to 14

    public int enter(int person, int land) {
        isPerson(person);
        isLand(land);
        Person one = persons.get(person);
        stateUnless(one.land == NONE);
        int why = reason(person, land);
        if (why != 0) {
            return why;
        }
        boolean isHome = one.nations.contains(land) || hasPermit(one, land);
        Visa needed = isHome || isFree(one, land) ? null : visaThatWouldDo(person, land);
        if (needed != null) {
            needed.entries--;
        }
        come(one, land, false, needed);
        return 0;
    }

    public int slip(int person, int land) {
        isPerson(person);
        isLand(land);
        stateUnless(persons.get(person).land == NONE);
        come(persons.get(person), land, true, null);
        return status(person);
    }

    public int move(int person, int land) {
        isPerson(person);
        isLand(land);
        Person one = persons.get(person);
        stateUnless(one.land != NONE && one.land != land && isInRegion(one.land) && isInRegion(land));
        one.land = land;
        look(one);
        return status(person);
    }

    public int leave(int person) {
        isPerson(person);
        Person one = persons.get(person);
        stateUnless(one.land != NONE);
        int from = one.land;
        int overstayed = about(person, 4);
        one.land = NONE;
        one.cameBy = null;
        if (overstayed == 0) {
            return NONE;
        }
        bans.add(new Ban(from, person, today, today + 1, today + Math.min(10 * overstayed, 720)));
        return theBan(from, person).last();
    }

    public int ban(int land, int person, int days) {
        isLand(land);
        isPerson(person);
        wrongUnless(isIn(days, 1, 720));
        bans.add(new Ban(land, person, today, today, today + days - 1));
        return theBan(land, person).last();
    }

    public boolean lift(int land, int person) {
        isLand(land);
        isPerson(person);
        Ban ban = theBan(land, person);
        bans.removeIf(other -> other.land() == land && other.person() == person);
        return ban != null && ban.last() >= today;
    }

    // ---- promises 15 to 23

    public int quota(int land, int type, int quota) {
        isLand(land);
        wrongUnless(isIn(type, 0, 2) && isIn(quota, 0, 9));
        int before = lands.get(land).quotas()[type];
        lands.get(land).quotas()[type] = quota;
        return before;
    }

    public int ask(int person, int land, int type) {
        isPerson(person);
        isLand(land);
        wrongUnless(isIn(type, 0, 2));
        stateUnless(requests.size() < 40 && !persons.get(person).nations.contains(land));
        for (Request other : requests) {
            stateUnless(other.person != person || other.land != land || other.state == GRANTED || other.state == OVER);
        }
        Request made = new Request();
        made.number = requests.size();
        made.person = person;
        made.land = land;
        made.type = type;
        made.date = today;
        requests.add(made);
        return made.number;
    }

    public int join(int request, int person) {
        isRequest(request);
        isPerson(person);
        Request joined = requests.get(request);
        Person one = persons.get(person);
        boolean isChild = one.mother == joined.person || one.father == joined.person;
        stateUnless(joined.state == WAITING && person != joined.person && !joined.followers.contains(person));
        stateUnless(joined.followers.size() < 3 && (!isChild || joined.date - one.bornOn < 18 * 360));
        joined.followers.add(person);
        return joined.followers.size();
    }

    public int refuse(int request) {
        isRequest(request);
        return turn(requests.get(request), WAITING, REFUSED, 30);
    }

    public int appeal(int request) {
        isRequest(request);
        return turn(requests.get(request), REFUSED, APPEALED, 60);
    }

    private int turn(Request one, int from, int to, int days) {
        stateUnless(one.state == from);
        one.state = to;
        one.clock = today + days;
        return one.clock;
    }

    public int judge(int request, boolean isGood) {
        isRequest(request);
        stateUnless(requests.get(request).state == APPEALED);
        requests.get(request).state = isGood ? WAITING : OVER;
        return requests.get(request).state;
    }

    public int withdraw(int request) {
        isRequest(request);
        stateUnless(requests.get(request).state == WAITING);
        requests.get(request).state = OVER;
        return today - requests.get(request).date;
    }

    public int extend(int person, int land) {
        isPerson(person);
        isLand(land);
        Person one = persons.get(person);
        stateUnless(hasPermit(one, land));
        int daysThere = 0;
        int days = 0;
        for (int day = today; day >= 0 && day > today - 360; day--) {
            days++;
            daysThere += one.statusOn[day] != 0 && one.landOn[day] == land ? 1 : 0;
        }
        stateUnless(daysThere >= (days == 360 ? 180 : days - days / 2));
        Permit permit = one.permits.get(land);
        one.permits.put(land, new Permit(permit.first(), permit.last() + 360));
        return permit(person, land);
    }

    public int oath(int person, int land) {
        isPerson(person);
        isLand(land);
        Person one = persons.get(person);
        stateUnless(one.land == land && !one.nations.contains(land) && hasPermit(one, land));
        stateUnless(today - one.permits.get(land).first() >= 1080);
        return nation(person, land, true);
    }

    // ---- promise 24

    public int pass(int days) {
        wrongUnless(isIn(days, 1, 100));
        stateUnless(today + days <= 3600);
        for (int i = 0; i < days; i++) {
            today++;
            for (Request request : requests) {
                boolean isTimed = request.state == REFUSED || request.state == APPEALED;
                request.state = isTimed && today == request.clock + 1 ? OVER : request.state;
            }
            for (Person one : persons) {
                look(one);
            }
            if (today % 360 == 0) {
                for (int land = 0; land < lands.size(); land++) {
                    goThroughClasses(land);
                }
            }
        }
        return today;
    }

    private void goThroughClasses(int land) {
        int leftOver = 0;
        for (int type = 0; type < 3; type++) {
            List<Request> waiting = waiting(land, type);
            int places = lands.get(land).quotas()[type] + leftOver;
            int granted = Math.min(places, waiting.size());
            for (Request request : waiting.subList(0, granted)) {
                request.state = GRANTED;
                grantPermit(persons.get(request.person), land);
                for (int follower : request.followers) {
                    grantPermit(persons.get(follower), land);
                }
            }
            leftOver = places - granted;
        }
    }

    /** Those with the earlier date first, of these those with the lower number. */
    private List<Request> waiting(int land, int type) {
        List<Request> found = new ArrayList<>();
        for (Request request : requests) {
            if (request.state == WAITING && request.land == land && request.type == type) {
                found.add(request);
            }
        }
        found.sort((a, b) -> a.date != b.date ? a.date - b.date : a.number - b.number);
        return found;
    }

    private void grantPermit(Person one, int land) {
        Permit granted = new Permit(today, today + 359);
        if (hasPermit(one, land)) {
            Permit before = one.permits.get(land);
            granted = new Permit(before.first(), Math.max(before.last(), granted.last()));
        }
        one.permits.put(land, granted);
    }

    private boolean hasPermit(Person one, int land) {
        return one.permits.containsKey(land) && one.permits.get(land).last() >= today;
    }

    // ---- promises 25 to 33

    public int status(int person) {
        isPerson(person);
        return persons.get(person).land == NONE ? 0 : persons.get(person).statusOn[today];
    }

    public int about(int person, int what) {
        isPerson(person);
        wrongUnless(isIn(what, 0, 4));
        Person one = persons.get(person);
        if (what == 0) {
            return one.land;
        }
        if (what == 1) {
            return one.nations.stream().mapToInt(k -> 1 << k).sum();
        }
        if (what == 2) {
            return daysAnew(person);
        }
        if (what == 3) {
            return one.cameBy == null ? NONE : one.cameBy.number;
        }
        int overstayed = 0;
        for (int day = one.cameOn; one.land != NONE && day <= today; day++) {
            overstayed += one.statusOn[day] == OVERSTAYED ? 1 : 0;
        }
        return overstayed;
    }

    public int daysAnew(int person) {
        isPerson(person);
        return count(persons.get(person), today);
    }

    /** How many days up to that one count in the window that ends today. */
    private int count(Person one, int last) {
        int found = 0;
        int window = ruleOfToday().window();
        for (int day = last; day >= 0 && day > today - window; day--) {
            boolean isOne = one.statusOn[day] == VISITOR || one.statusOn[day] == OVERSTAYED;
            found += isOne && isInRegion(one.landOn[day]) ? 1 : 0;
        }
        return found;
    }

    public int was(int person, int day) {
        isPerson(person);
        wrongUnless(isIn(day, 0, today));
        Person one = persons.get(person);
        return one.statusOn[day] == 0 ? 0 : 10 * one.landOn[day] + one.statusOn[day];
    }

    public int reason(int person, int land) {
        isPerson(person);
        isLand(land);
        Person one = persons.get(person);
        boolean isHome = one.nations.contains(land) || hasPermit(one, land);
        for (int maker = 0; maker < lands.size(); maker++) {
            Ban ban = theBan(maker, person);
            boolean isNow = ban != null && isIn(today, ban.first(), ban.last());
            if (isNow && knows(land, ban) && !isHome) {
                return 1;
            }
        }
        if (!isHome && !isFree(one, land) && visaThatWouldDo(person, land) == null) {
            return 2;
        }
        return isHome || !isInRegion(land) || count(one, today - 1) + 1 <= ruleOfToday().most() ? 0 : 3;
    }

    public int banned(int land, int person, int knows) {
        isLand(land);
        isPerson(person);
        isLand(knows);
        Ban ban = theBan(land, person);
        return ban != null && ban.last() >= today && knows(knows, ban) ? ban.last() : NONE;
    }

    public int ofVisa(int visa, int what) {
        isVisa(visa);
        wrongUnless(isIn(what, 0, 2));
        Visa told = visas.get(visa);
        return what == 0 ? told.entries : what == 1 ? told.days - told.daysTaken.size() : told.person;
    }

    public int ofRequest(int request, int what) {
        isRequest(request);
        wrongUnless(isIn(what, 0, 3));
        Request told = requests.get(request);
        return switch (what) {
            case 0 -> told.state;
            case 1 -> told.date;
            case 2 -> told.followers.size();
            default -> waiting(told.land, told.type).indexOf(told);
        };
    }

    public int permit(int person, int land) {
        isPerson(person);
        isLand(land);
        return hasPermit(persons.get(person), land) ? persons.get(person).permits.get(land).last() : NONE;
    }

    // ---- where one is, and as what

    private boolean isInRegion(int land) {
        return lands.get(land).inRegion();
    }

    private void come(Person one, int land, boolean slipped, Visa by) {
        one.land = land;
        one.slipped = slipped;
        one.cameBy = by;
        one.cameOn = today;
        look(one);
    }

    private void look(Person one) {
        if (one.land == NONE) {
            return;
        }
        int status = statusOf(one, one.land);
        if (status == VISITOR && !isFree(one, one.land)) {
            one.cameBy.daysTaken.add(today);
        }
        one.landOn[today] = one.land;
        one.statusOn[today] = status;
    }

    private int statusOf(Person one, int land) {
        if (one.nations.contains(land)) {
            return NATIONAL;
        }
        if (hasPermit(one, land)) {
            return RESIDENT;
        }
        boolean hasDaysLeft = isInRegion(land) ? count(one, today - 1) + 1 <= ruleOfToday().most()
            : today - one.cameOn + 1 <= 60;
        boolean hasVisa = one.cameBy != null && does(one.cameBy, land);
        return !one.slipped && hasDaysLeft && (isFree(one, land) || hasVisa) ? VISITOR : OVERSTAYED;
    }

    private Rule ruleOfToday() {
        Rule found = rules.get(0);
        for (Rule rule : rules) {
            found = rule.day() <= today && rule.day() >= found.day() ? rule : found;
        }
        return found;
    }

    private boolean isFree(Person one, int land) {
        for (int nation : one.nations) {
            if (lands.get(land).waivesFor().contains(nation)) {
                return true;
            }
        }
        for (int other = 0; other < lands.size(); other++) {
            if (isInRegion(land) && isInRegion(other) && hasPermit(one, other)) {
                return true;
            }
        }
        return false;
    }

    private boolean does(Visa visa, int land) {
        boolean isOfIt = visa.land == land || isInRegion(visa.land) && isInRegion(land);
        boolean hasDay = visa.daysTaken.size() < visa.days || visa.daysTaken.contains(today);
        return isOfIt && isIn(today, visa.first, visa.last) && hasDay;
    }

    private Visa visaThatWouldDo(int person, int land) {
        for (Visa visa : visas) {
            if (visa.person == person && visa.entries > 0 && does(visa, land)) {
                return visa;
            }
        }
        return null;
    }

    /** Of two bans the one that ends later stands alone, of like ones the one ahead. */
    private Ban theBan(int land, int person) {
        Ban stands = null;
        for (Ban ban : bans) {
            boolean isOne = ban.land() == land && ban.person() == person;
            stands = isOne && (stands == null || ban.last() > stands.last()) ? ban : stands;
        }
        return stands;
    }

    private boolean knows(int land, Ban ban) {
        boolean isAtOnce = land == ban.land() || isInRegion(land) && isInRegion(ban.land());
        return isAtOnce || today >= ban.made() + lands.get(land).late();
    }
}
