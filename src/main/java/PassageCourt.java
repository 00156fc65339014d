import java.util.ArrayList;
import java.util.Arrays;

/** The crossing of borders by people, as ../shared/DOC.md tells it in its promises 1 to 33. */
public final class PassageCourt {
    public static final int NONE = -1;
    public static final int ABROAD = 0, NATIONAL = 1, RESIDENT = 2, VISITOR = 3, OVERSTAYED = 4;
    public static final int WAITING = 0, GRANTED = 1, REFUSED = 2, APPEALED = 3, OVER = 4;

    private static final int MOST_LANDS = 8, MOST_PERSONS = 16, MOST_VISAS = 60;
    private static final int MOST_REQUESTS = 40, MOST_RULES = 10, MOST_FOLLOWERS = 3;
    private static final int LAST_DAY = 3600, YEAR = 360, CLASSES = 3, LAND_UNIT = 10;
    private static final int LATEST = 30, OLDEST = 99, ADULT = 18 * YEAR;
    private static final int DAYS_OUTSIDE_REGION = 60;
    private static final int LONGEST_BAN = 720, BAN_PER_DAY = 10;
    private static final int DAYS_TO_APPEAL = 30, DAYS_TO_JUDGE = 60, DAYS_TO_OATH = 1080;

    private final ArrayList<Land> lands = new ArrayList<Land>();
    private final ArrayList<Person> persons = new ArrayList<Person>();
    private final ArrayList<Visa> visas = new ArrayList<Visa>();
    private final ArrayList<Request> requests = new ArrayList<Request>();
    private final Rule firstRule = new Rule(0, 90, 180);
    private final ArrayList<Rule> laterRules = new ArrayList<Rule>();
    private int today;

    public PassageCourt() {
        today = 0;
    }

    // ---- lands, rules, persons

    public int land(boolean isInRegion, boolean bySoil, boolean byDescent, int late)
            throws IllegalArgumentException, IllegalStateException {
        if (late < 0 || late > LATEST) {
            throw new IllegalArgumentException("late is out of range");
        }
        if (lands.size() >= MOST_LANDS) {
            throw new IllegalStateException("there are 8 lands");
        }
        Land told = new Land(lands.size(), isInRegion, bySoil, byDescent, late);
        lands.add(told);
        return told.number;
    }

    public boolean waive(int land, int nation, boolean is)
            throws IndexOutOfBoundsException, IllegalArgumentException {
        Land host = landAt(land);
        Land guest = landAt(nation);
        if (land == nation) {
            throw new IllegalArgumentException("a land waives nothing for its own nation");
        }
        boolean did = host.waivesFor(guest.bit());
        host.waived = is ? host.waived | guest.bit() : host.waived & ~guest.bit();
        return did;
    }

    public int rule(int day, int most, int window)
            throws IllegalArgumentException, IllegalStateException {
        if (day < today || day > LAST_DAY || most < 0 || most > 180 || window < 1 || window > YEAR) {
            throw new IllegalArgumentException("day, most or window is out of range");
        }
        if (countRules() >= MOST_RULES) {
            throw new IllegalStateException("there are 10 rules");
        }
        laterRules.add(new Rule(day, most, window));
        return countRules();
    }

    public int person(int nation, int age)
            throws IndexOutOfBoundsException, IllegalArgumentException, IllegalStateException {
        int nations = nation == NONE ? 0 : landAt(nation).bit();
        if (age < 0 || age > OLDEST) {
            throw new IllegalArgumentException("age is out of range");
        }
        refuseMorePersons();
        return addPerson(today - age * YEAR, nations, NONE, NONE).number;
    }

    public int birth(int mother, int father)
            throws IndexOutOfBoundsException, IllegalArgumentException, IllegalStateException {
        Person bearer = personAt(mother);
        Person other = father == NONE ? null : personAt(father);
        if (mother == father) {
            throw new IllegalArgumentException("mother and father are the same");
        }
        Land here = bearer.there;
        if (here == null) {
            throw new IllegalStateException("the mother is abroad");
        }
        refuseMorePersons();
        Person child = addPerson(today, nationsAtBirth(bearer, other, here), mother, father);
        arrive(child, here, null, false);
        return child.number;
    }

    public int nation(int person, int nation, boolean is) throws IndexOutOfBoundsException {
        Person one = personAt(person);
        int bit = landAt(nation).bit();
        one.nations = is ? one.nations | bit : one.nations & ~bit;
        return one.nations;
    }

    public int visa(int person, int land, int first, int last, int entries, int days)
            throws IndexOutOfBoundsException, IllegalArgumentException, IllegalStateException {
        Person one = personAt(person);
        Land of = landAt(land);
        if (first < today || first > LAST_DAY || last < first || last > LAST_DAY) {
            throw new IllegalArgumentException("first or last is out of range");
        }
        if (entries < 1 || entries > 9 || days < 1 || days > 90) {
            throw new IllegalArgumentException("entries or days is out of range");
        }
        if (visas.size() >= MOST_VISAS) {
            throw new IllegalStateException("there are 60 visas");
        }
        Visa given = new Visa(visas.size(), one.number, of, first, last);
        given.entries = entries;
        given.days = days;
        visas.add(given);
        return given.number;
    }

    // ---- crossing

    public int enter(int person, int land) throws IndexOutOfBoundsException, IllegalStateException {
        Person one = personAt(person);
        Land to = landAt(land);
        refuseOneInALand(one);
        int why = whyNot(one, to);
        if (why == 0) {
            Visa taken = needsVisa(one, to) ? lowestVisa(one, to) : null;
            if (taken != null) {
                taken.entries--;
            }
            arrive(one, to, taken, false);
        }
        return why;
    }

    public int slip(int person, int land) throws IndexOutOfBoundsException, IllegalStateException {
        Person one = personAt(person);
        Land to = landAt(land);
        refuseOneInALand(one);
        arrive(one, to, null, true);
        return statusToday(one);
    }

    public int move(int person, int land) throws IndexOutOfBoundsException, IllegalStateException {
        Person one = personAt(person);
        Land to = landAt(land);
        Land from = one.there;
        if (from == null || from == to || !from.isInRegion || !to.isInRegion) {
            throw new IllegalStateException("one moves from a land of the region to another one");
        }
        one.there = to;
        lookAt(one);
        return statusToday(one);
    }

    public int leave(int person) throws IndexOutOfBoundsException, IllegalStateException {
        Person one = personAt(person);
        Land from = one.there;
        if (from == null) {
            throw new IllegalStateException("one who is abroad can't leave");
        }
        int length = Math.min(LONGEST_BAN, BAN_PER_DAY * overstayedDays(one));
        one.there = null;
        one.visa = null;
        if (length == 0) {
            return NONE;
        }
        one.bans.add(from.number, today + 1, today + length, today);
        return one.bans.last.at(from.number);
    }

    public int ban(int land, int person, int days)
            throws IndexOutOfBoundsException, IllegalArgumentException {
        Land maker = landAt(land);
        Person one = personAt(person);
        if (days < 1 || days > LONGEST_BAN) {
            throw new IllegalArgumentException("days is out of range");
        }
        one.bans.add(maker.number, today, today + days - 1, today);
        return one.bans.last.at(maker.number);
    }

    public boolean lift(int land, int person) throws IndexOutOfBoundsException {
        Land maker = landAt(land);
        Person one = personAt(person);
        boolean stood = one.bans.stands(maker.number, today);
        one.bans.clear(maker.number);
        return stood;
    }

    // ---- residence

    public int quota(int land, int type, int quota)
            throws IndexOutOfBoundsException, IllegalArgumentException {
        Land of = landAt(land);
        if (type < 0 || type >= CLASSES || quota < 0 || quota > 9) {
            throw new IllegalArgumentException("type or quota is out of range");
        }
        int before = of.quotas.at(type);
        of.quotas.put(type, quota);
        return before;
    }

    public int ask(int person, int land, int type)
            throws IndexOutOfBoundsException, IllegalArgumentException, IllegalStateException {
        Person one = personAt(person);
        Land of = landAt(land);
        if (type < 0 || type >= CLASSES) {
            throw new IllegalArgumentException("type is out of range");
        }
        if (requests.size() >= MOST_REQUESTS || one.isOf(of) || hasOpenRequest(one, of)) {
            throw new IllegalStateException("there are 40, it is of that nation, or has one that is open");
        }
        Request made = new Request(requests.size(), one.number, of.number, type, today);
        requests.add(made);
        return made.number;
    }

    public int join(int request, int person) throws IndexOutOfBoundsException, IllegalStateException {
        Request joined = requestAt(request);
        Person one = personAt(person);
        refuseUnless(joined.state == WAITING);
        if (joined.person == one.number || joined.isFollowedBy(one.number)
                || joined.countFollowers() >= MOST_FOLLOWERS || isTooOldFor(joined, one)) {
            throw new IllegalStateException("this person can't follow, or 3 do");
        }
        joined.followers |= 1 << one.number;
        return joined.countFollowers();
    }

    public int refuse(int request) throws IndexOutOfBoundsException, IllegalStateException {
        Request refused = requestAt(request);
        refuseUnless(refused.state == WAITING);
        refused.state = REFUSED;
        refused.lastDay = today + DAYS_TO_APPEAL;
        return refused.lastDay;
    }

    public int appeal(int request) throws IndexOutOfBoundsException, IllegalStateException {
        Request appealed = requestAt(request);
        refuseUnless(appealed.state == REFUSED);
        appealed.state = APPEALED;
        appealed.lastDay = today + DAYS_TO_JUDGE;
        return appealed.lastDay;
    }

    public int judge(int request, boolean isGood) throws IndexOutOfBoundsException, IllegalStateException {
        Request judged = requestAt(request);
        refuseUnless(judged.state == APPEALED);
        judged.state = isGood ? WAITING : OVER;
        return judged.state;
    }

    public int withdraw(int request) throws IndexOutOfBoundsException, IllegalStateException {
        Request withdrawn = requestAt(request);
        refuseUnless(withdrawn.state == WAITING);
        withdrawn.state = OVER;
        return today - withdrawn.date;
    }

    public int extend(int person, int land) throws IndexOutOfBoundsException, IllegalStateException {
        Person one = personAt(person);
        Land of = landAt(land);
        if (!one.permits.isValid(of.number, today) || !wasThereEnough(one, of)) {
            throw new IllegalStateException("no valid permit, or there on too few days");
        }
        one.permits.prolong(of.number, YEAR);
        return one.permits.last.at(of.number);
    }

    public int oath(int person, int land) throws IndexOutOfBoundsException, IllegalStateException {
        Person one = personAt(person);
        Land of = landAt(land);
        if (one.there != of || one.isOf(of) || !one.permits.isValid(of.number, today)
                || today - one.permits.since.at(of.number) < DAYS_TO_OATH) {
            throw new IllegalStateException("not there, of that nation already, or no such permit");
        }
        one.nations |= of.bit();
        return one.nations;
    }

    // ---- days

    public int pass(int days) throws IllegalArgumentException, IllegalStateException {
        if (days < 1 || days > 100) {
            throw new IllegalArgumentException("days is out of range");
        }
        if (today + days > LAST_DAY) {
            throw new IllegalStateException("no day is above 3600");
        }
        for (int i = 0; i < days; i++) {
            beginDay();
        }
        return today;
    }

    // ---- what there is

    public int status(int person) throws IndexOutOfBoundsException {
        return statusToday(personAt(person));
    }

    public int about(int person, int what) throws IndexOutOfBoundsException, IllegalArgumentException {
        Person one = personAt(person);
        switch (what) {
            case 0:
                return one.there == null ? NONE : one.there.number;
            case 1:
                return one.nations;
            case 2:
                return one.counted.at(today) - one.counted.at(today - ruleToday().window);
            case 3:
                return one.visa == null ? NONE : one.visa.number;
            case 4:
                return one.there == null ? 0 : overstayedDays(one);
            default:
                throw new IllegalArgumentException("what is out of range");
        }
    }

    public int daysAnew(int person) throws IndexOutOfBoundsException {
        Person one = personAt(person);
        int count = 0;
        for (int day = Math.max(0, today - ruleToday().window + 1); day <= today; day++) {
            if (isCounting(one.days.at(day))) {
                count++;
            }
        }
        return count;
    }

    public int was(int person, int day) throws IndexOutOfBoundsException, IllegalArgumentException {
        Person one = personAt(person);
        if (day < 0 || day > today) {
            throw new IllegalArgumentException("day is out of range");
        }
        return one.days.at(day);
    }

    public int reason(int person, int land) throws IndexOutOfBoundsException {
        return whyNot(personAt(person), landAt(land));
    }

    public int banned(int land, int person, int knows) throws IndexOutOfBoundsException {
        Land maker = landAt(land);
        Person one = personAt(person);
        Land knower = landAt(knows);
        if (!one.bans.stands(maker.number, today) || !isKnown(one, maker, knower)) {
            return NONE;
        }
        return one.bans.last.at(maker.number);
    }

    public int ofVisa(int visa, int what) throws IndexOutOfBoundsException, IllegalArgumentException {
        Visa told = visaAt(visa);
        switch (what) {
            case 0:
                return told.entries;
            case 1:
                return told.days;
            case 2:
                return told.person;
            default:
                throw new IllegalArgumentException("what is out of range");
        }
    }

    public int ofRequest(int request, int what) throws IndexOutOfBoundsException, IllegalArgumentException {
        Request told = requestAt(request);
        switch (what) {
            case 0:
                return told.state;
            case 1:
                return told.date;
            case 2:
                return told.countFollowers();
            case 3:
                return placeOf(told);
            default:
                throw new IllegalArgumentException("what is out of range");
        }
    }

    public int permit(int person, int land) throws IndexOutOfBoundsException {
        Person one = personAt(person);
        Land of = landAt(land);
        return one.permits.isValid(of.number, today) ? one.permits.last.at(of.number) : NONE;
    }

    // ---- finding what a number stands for

    private Land landAt(int number) {
        if (number < 0 || number >= lands.size()) {
            throw new IndexOutOfBoundsException("there is no such land");
        }
        return lands.get(number);
    }

    private Person personAt(int number) {
        if (number < 0 || number >= persons.size()) {
            throw new IndexOutOfBoundsException("there is no such person");
        }
        return persons.get(number);
    }

    private Visa visaAt(int number) {
        if (number < 0 || number >= visas.size()) {
            throw new IndexOutOfBoundsException("there is no such visa");
        }
        return visas.get(number);
    }

    private Request requestAt(int number) {
        if (number < 0 || number >= requests.size()) {
            throw new IndexOutOfBoundsException("there is no such request");
        }
        return requests.get(number);
    }

    // ---- refusing a call

    private void refuseMorePersons() {
        if (persons.size() >= MOST_PERSONS) {
            throw new IllegalStateException("there are 16 persons");
        }
    }

    private void refuseOneInALand(Person one) {
        if (one.there != null) {
            throw new IllegalStateException("this one is in a land");
        }
    }

    private void refuseUnless(boolean isInThatState) {
        if (!isInThatState) {
            throw new IllegalStateException("the request is in another state");
        }
    }

    // ---- persons

    private Person addPerson(int birthday, int nations, int mother, int father) {
        Person added = new Person(persons.size(), birthday, mother, father);
        added.nations = nations;
        persons.add(added);
        return added;
    }

    private int nationsAtBirth(Person mother, Person father, Land here) {
        int ofParents = father == null ? mother.nations : mother.nations | father.nations;
        int nations = 0;
        for (int i = 0; i < lands.size(); i++) {
            Land land = lands.get(i);
            if (land.byDescent) {
                nations |= ofParents & land.bit();
            }
        }
        if (here.bySoil && (isRootedIn(mother, here) || father != null && isRootedIn(father, here))) {
            nations |= here.bit();
        }
        return nations;
    }

    private boolean isRootedIn(Person one, Land land) {
        return one.isOf(land) || one.permits.isValid(land.number, today);
    }

    private int statusToday(Person one) {
        return one.there == null ? ABROAD : one.days.at(today) % LAND_UNIT;
    }

    private int overstayedDays(Person one) {
        int count = 0;
        for (int day = one.stayFrom; day <= today; day++) {
            if (one.days.at(day) % LAND_UNIT == OVERSTAYED) {
                count++;
            }
        }
        return count;
    }

    private boolean wasThereEnough(Person one, Land land) {
        int span = Math.min(YEAR, today + 1);
        int count = 0;
        for (int day = today - span + 1; day <= today; day++) {
            int record = one.days.at(day);
            if (record != 0 && record / LAND_UNIT == land.number) {
                count++;
            }
        }
        return count >= (span + 1) / 2;
    }

    // ---- looking at a person

    private void arrive(Person one, Land to, Visa by, boolean hasSlipped) {
        one.there = to;
        one.visa = by;
        one.hasSlipped = hasSlipped;
        one.stayFrom = today;
        lookAt(one);
    }

    private void lookAt(Person one) {
        Land there = one.there;
        if (there != null) {
            int found = statusIn(one, there);
            if (found == VISITOR && one.visa != null && !isFreeOfVisas(one, there)) {
                one.visa.takeDay(today);
            }
            one.days.put(today, LAND_UNIT * there.number + found);
        }
        int more = isCounting(one.days.at(today)) ? 1 : 0;
        one.counted.put(today, one.counted.at(today - 1) + more);
    }

    private int statusIn(Person one, Land there) {
        if (one.isOf(there)) {
            return NATIONAL;
        }
        if (one.permits.isValid(there.number, today)) {
            return RESIDENT;
        }
        boolean isVisitor = !one.hasSlipped && hasDaysLeft(one, there, one.stayFrom)
                && (isFreeOfVisas(one, there) || one.visa != null && one.visa.doesFor(there, today));
        return isVisitor ? VISITOR : OVERSTAYED;
    }

    private boolean hasDaysLeft(Person one, Land land, int stayFrom) {
        if (!land.isInRegion) {
            return today - stayFrom < DAYS_OUTSIDE_REGION;
        }
        Rule now = ruleToday();
        // today counts whatever its record says so far: the question is what it would make
        return one.counted.at(today - 1) - one.counted.at(today - now.window) + 1 <= now.most;
    }

    private boolean isFreeOfVisas(Person one, Land land) {
        boolean isFree = land.waivesFor(one.nations);
        for (int i = 0; i < lands.size() && land.isInRegion && !isFree; i++) {
            isFree = lands.get(i).isInRegion && one.permits.isValid(i, today);
        }
        return isFree;
    }

    private boolean isCounting(int record) {
        int land = record / LAND_UNIT;
        return record % LAND_UNIT >= VISITOR && land >= 0 && land < lands.size() && lands.get(land).isInRegion;
    }

    private int countRules() {
        return 1 + laterRules.size();
    }

    private Rule ruleToday() {
        Rule found = firstRule;
        for (int i = 0; i < laterRules.size(); i++) {
            Rule told = laterRules.get(i);
            if (told.from <= today && told.from >= found.from) {
                found = told;
            }
        }
        return found;
    }

    // ---- asking at the border

    private int whyNot(Person one, Land to) {
        if (isRootedIn(one, to)) {
            return 0;
        }
        if (isBannedAt(one, to)) {
            return 1;
        }
        if (needsVisa(one, to) && lowestVisa(one, to) == null) {
            return 2;
        }
        return hasDaysLeft(one, to, today) ? 0 : 3;
    }

    private boolean needsVisa(Person one, Land to) {
        return !isRootedIn(one, to) && !isFreeOfVisas(one, to);
    }

    private Visa lowestVisa(Person one, Land to) {
        for (int i = 0; i < visas.size(); i++) {
            Visa visa = visas.get(i);
            if (visa.person == one.number && visa.entries > 0 && visa.doesFor(to, today)) {
                return visa;
            }
        }
        return null;
    }

    private boolean isBannedAt(Person one, Land at) {
        for (int i = 0; i < lands.size(); i++) {
            if (one.bans.holds(i, today) && isKnown(one, lands.get(i), at)) {
                return true;
            }
        }
        return false;
    }

    private boolean isKnown(Person one, Land maker, Land knower) {
        return maker == knower || maker.isInRegion && knower.isInRegion
                || today >= one.bans.made.at(maker.number) + knower.late;
    }

    // ---- requests

    private boolean hasOpenRequest(Person one, Land of) {
        for (int i = 0; i < requests.size(); i++) {
            Request request = requests.get(i);
            if (request.person == one.number && request.land == of.number && request.isOpen()) {
                return true;
            }
        }
        return false;
    }

    private boolean isTooOldFor(Request request, Person one) {
        boolean isChild = one.mother == request.person || one.father == request.person;
        return isChild && request.date - one.birthday >= ADULT;
    }

    private int placeOf(Request told) {
        if (told.state != WAITING) {
            return NONE;
        }
        int place = 0;
        // requests are numbered as time goes: a lower number never has a later date
        for (int i = 0; i < told.number && i < requests.size(); i++) {
            if (requests.get(i).isWaitingFor(told.land, told.type)) {
                place++;
            }
        }
        return place;
    }

    // ---- when a day begins

    private void beginDay() {
        today++;
        for (int i = 0; i < requests.size(); i++) {
            requests.get(i).endIfLate(today);
        }
        for (int i = 0; i < persons.size(); i++) {
            lookAt(persons.get(i));
        }
        if (today % YEAR == 0) {
            for (int i = 0; i < lands.size(); i++) {
                grantByQuotas(lands.get(i));
            }
        }
    }

    private void grantByQuotas(Land land) {
        int places = 0;
        for (int type = 0; type < CLASSES; type++) {
            places += land.quotas.at(type);
            for (int i = 0; i < requests.size() && places > 0; i++) {
                Request request = requests.get(i);
                if (request.isWaitingFor(land.number, type)) {
                    grant(request);
                    places--;
                }
            }
        }
    }

    private void grant(Request request) {
        request.state = GRANTED;
        for (int i = 0; i < persons.size(); i++) {
            if (request.person == i || request.isFollowedBy(i)) {
                persons.get(i).permits.grantOn(request.land, today);
            }
        }
    }

    /** Numbers in a row, which is empty beyond its ends. */
    private static final class Row {
        private final int[] cells;
        private final int empty;

        Row(int length, int empty) {
            this.cells = new int[length < 0 ? 0 : length];
            this.empty = empty;
            if (empty != 0) {
                Arrays.fill(this.cells, empty);
            }
        }

        int at(int index) {
            return index < 0 || index >= cells.length ? empty : cells[index];
        }

        void put(int index, int value) {
            if (index >= 0 && index < cells.length) {
                cells[index] = value;
            }
        }
    }

    private static final class Rule {
        final int from;
        final int most;
        final int window;

        Rule(int from, int most, int window) {
            this.from = from;
            this.most = most;
            this.window = window;
        }
    }

    private static final class Land {
        final int number;
        final boolean isInRegion;
        final boolean bySoil;
        final boolean byDescent;
        final int late;
        final Row quotas = new Row(CLASSES, 0);
        int waived;

        Land(int number, boolean isInRegion, boolean bySoil, boolean byDescent, int late) {
            this.number = number;
            this.isInRegion = isInRegion;
            this.bySoil = bySoil;
            this.byDescent = byDescent;
            this.late = late;
        }

        int bit() {
            return 1 << number;
        }

        boolean waivesFor(int nations) {
            return (waived & nations) != 0;
        }
    }

    private static final class Person {
        final int number;
        final int birthday;
        final int mother;
        final int father;
        /** Of each day 10 times the land and the status there, as it was looked at last. */
        final Row days = new Row(LAST_DAY + 1, 0);
        /** Of each day how many days counted up to it, so that a window is one subtraction. */
        final Row counted = new Row(LAST_DAY + 1, 0);
        final Bans bans = new Bans();
        final Permits permits = new Permits();
        int nations;
        Land there;
        Visa visa;
        boolean hasSlipped;
        int stayFrom;

        Person(int number, int birthday, int mother, int father) {
            this.number = number;
            this.birthday = birthday;
            this.mother = mother;
            this.father = father;
        }

        boolean isOf(Land land) {
            return (nations & land.bit()) != 0;
        }
    }

    /** The bans of one person, one of each land. */
    private static final class Bans {
        final Row first = new Row(MOST_LANDS, NONE);
        final Row last = new Row(MOST_LANDS, NONE);
        final Row made = new Row(MOST_LANDS, NONE);

        void add(int land, int from, int to, int day) {
            if (to > last.at(land)) {
                first.put(land, from);
                last.put(land, to);
                made.put(land, day);
            }
        }

        void clear(int land) {
            last.put(land, NONE);
        }

        boolean stands(int land, int day) {
            return last.at(land) >= day;
        }

        boolean holds(int land, int day) {
            return first.at(land) <= day && stands(land, day);
        }
    }

    /** The permits of one person, one of each land. */
    private static final class Permits {
        final Row since = new Row(MOST_LANDS, NONE);
        final Row last = new Row(MOST_LANDS, NONE);

        boolean isValid(int land, int day) {
            return last.at(land) >= day;
        }

        void grantOn(int land, int day) {
            if (!isValid(land, day)) {
                since.put(land, day);
            }
            last.put(land, Math.max(last.at(land), day + YEAR - 1));
        }

        void prolong(int land, int days) {
            last.put(land, last.at(land) + days);
        }
    }

    private static final class Visa {
        final int number;
        final int person;
        final Land land;
        final int first;
        final int last;
        int entries;
        int days;
        int takenDay = NONE;

        Visa(int number, int person, Land land, int first, int last) {
            this.number = number;
            this.person = person;
            this.land = land;
            this.first = first;
            this.last = last;
        }

        boolean isFor(Land there) {
            return there == land || there.isInRegion && land.isInRegion;
        }

        boolean doesFor(Land there, int day) {
            return isFor(there) && first <= day && day <= last && (days > 0 || takenDay == day);
        }

        void takeDay(int day) {
            if (takenDay != day) {
                takenDay = day;
                days--;
            }
        }
    }

    private static final class Request {
        final int number;
        final int person;
        final int land;
        final int type;
        final int date;
        int state = WAITING;
        int lastDay;
        int followers;

        Request(int number, int person, int land, int type, int date) {
            this.number = number;
            this.person = person;
            this.land = land;
            this.type = type;
            this.date = date;
        }

        boolean isOpen() {
            return state == WAITING || state == REFUSED || state == APPEALED;
        }

        boolean isWaitingFor(int ofLand, int ofType) {
            return state == WAITING && land == ofLand && type == ofType;
        }

        boolean isFollowedBy(int one) {
            return (followers & 1 << one) != 0;
        }

        int countFollowers() {
            return Integer.bitCount(followers);
        }

        void endIfLate(int day) {
            if ((state == REFUSED || state == APPEALED) && day > lastDay) {
                state = OVER;
            }
        }
    }
}
