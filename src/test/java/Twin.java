/**
 * Tells all that calls can show of an object, so that two like ones can be compared. An object is promised for
 * 512 calls alone: a story goes on with a new one, made alike, before it comes there.
 */
final class Twin {
    private static final int CALLS = 270, LAST_DAY = 3600, MOST = 100;

    interface Question {
        Object of(PassageCourt x);
    }

    private final Check.Maker maker;
    private final Check.Act act;
    private final StringBuilder story = new StringBuilder();
    private final int lands;
    private final int persons;
    private final int visas;
    private final int requests;
    private final int today;
    private PassageCourt x;
    private int calls;

    private Twin(Check.Maker maker, Check.Act act) {
        this.maker = maker;
        this.act = act;
        // of a number that is too high each call tells before it looks at the rest
        lands = count((y, n) -> y.quota(n, MOST, 0));
        persons = count((y, n) -> y.status(n));
        visas = count((y, n) -> y.ofVisa(n, 0));
        requests = count((y, n) -> y.ofRequest(n, 0));
        today = findToday();
    }

    static String storyOf(Check.Maker maker, Check.Act act) {
        Twin twin = new Twin(maker, act);
        twin.asItIs();
        twin.asItIsSet();
        twin.asDaysPass();
        twin.asTheyCross();
        twin.asTheyReside();
        return twin.story.toString();
    }

    private int count(Check.ActWith call) {
        anew();
        for (int n = 0; n < MOST; n++) {
            int number = n;
            if (Check.thrownBy(x, y -> call.on(y, number)).endsWith(IndexOutOfBoundsException.class.getName())) {
                return n;
            }
        }
        return MOST;
    }

    private int findToday() {
        anew();
        try {
            return x.pass(1) - 1;
        } catch (IllegalStateException e) {
            return LAST_DAY;
        }
    }

    private void anew() {
        x = maker.make();
        act.on(x);
        calls = 0;
    }

    private void say(Question question) {
        calls++;
        story.append(' ');
        try {
            story.append(question.of(x));
        } catch (RuntimeException e) {
            story.append(e.getClass().getSimpleName());
        }
    }

    /** A question that changes nothing. */
    private void ask(Question question) {
        if (calls >= CALLS) {
            anew();
        }
        say(question);
    }

    private void asItIs() {
        anew();
        story.append(lands + " " + persons + " " + visas + " " + requests + " " + today);
        for (int i = 0; i < persons; i++) {
            person(i);
        }
        for (int i = 0; i < visas; i++) {
            int visa = i;
            for (int k = 0; k < 3; k++) {
                int what = k;
                ask(y -> y.ofVisa(visa, what));
            }
        }
        for (int i = 0; i < requests; i++) {
            int request = i;
            for (int k = 0; k < 4; k++) {
                int what = k;
                ask(y -> y.ofRequest(request, what));
            }
        }
    }

    private void person(int p) {
        story.append(" | ");
        whereOneIs(p);
        ask(y -> y.daysAnew(p));
        for (int d = Math.max(0, today - 4); d <= today + 1; d++) {
            int day = d;
            ask(y -> y.was(p, day));
        }
        for (int i = 0; i < lands; i++) {
            int land = i;
            ask(y -> y.reason(p, land));
            ask(y -> y.permit(p, land));
            for (int k = 0; k < lands; k++) {
                int other = k;
                ask(y -> y.banned(land, p, other));
            }
        }
    }

    private void whereOneIs(int p) {
        ask(y -> y.status(p));
        for (int k = 0; k < 5; k++) {
            int what = k;
            ask(y -> y.about(p, what));
        }
    }

    private void asItIsSet() {
        anew();
        for (int i = 0; i < lands; i++) {
            int land = i;
            for (int k = 0; k < Math.max(3, lands); k++) {
                int other = k;
                say(y -> y.quota(land, other, 0));
                say(y -> y.waive(land, other, true));
            }
        }
        say(y -> y.land(true, true, true, 0));
        say(y -> y.person(PassageCourt.NONE, 0));
        say(y -> y.rule(LAST_DAY, 0, 1));
        say(y -> y.visa(0, 0, LAST_DAY, LAST_DAY, 1, 1));
        for (int i = 0; i < lands; i++) {
            int land = i;
            say(y -> y.ask(persons - 1, land, 0));
        }
    }

    private void asDaysPass() {
        for (int days : new int[] {1, 31, 60}) {
            anew();
            say(y -> y.pass(days));
            for (int i = 0; i < persons; i++) {
                int person = i;
                say(y -> y.status(person));
                say(y -> y.about(person, 2));
                say(y -> y.about(person, 4));
                say(y -> y.reason(person, 0));
            }
            for (int i = 0; i < requests; i++) {
                int request = i;
                say(y -> y.ofRequest(request, 0));
            }
        }
    }

    private void asTheyCross() {
        anew();
        for (int i = 0; i < persons; i++) {
            int person = i;
            say(y -> y.leave(person));
            say(y -> y.enter(person, 0));
            say(y -> y.about(person, 3));
            say(y -> y.move(person, 1));
            say(y -> y.leave(person));
            say(y -> y.slip(person, lands - 1));
        }
        say(y -> y.pass(1));
        for (int i = 0; i < persons; i++) {
            int person = i;
            say(y -> y.status(person));
            say(y -> y.leave(person));
            say(y -> y.lift(0, person));
            say(y -> y.lift(1, person));
        }
        say(y -> y.birth(0, PassageCourt.NONE));
        for (int i = 0; i < visas; i++) {
            int visa = i;
            say(y -> y.ofVisa(visa, 0));
        }
    }

    private void asTheyReside() {
        anew();
        for (int i = 0; i < requests; i++) {
            int request = i;
            say(y -> y.join(request, persons - 1));
            say(y -> y.appeal(request));
        }
        for (int i = 0; i < lands; i++) {
            int land = i;
            for (int k = 0; k < 3; k++) {
                int type = k;
                say(y -> y.quota(land, type, 1));
            }
        }
        for (int day = today; day < LAST_DAY && (day == today || day % 360 != 0); day += Math.min(100, 360 - day % 360)) {
            int days = Math.min(100, 360 - day % 360);
            say(y -> y.pass(days));
        }
        for (int i = 0; i < persons; i++) {
            int person = i;
            for (int k = 0; k < 3; k++) {
                int land = k;
                say(y -> y.permit(person, land));
            }
            say(y -> y.extend(person, 0));
            say(y -> y.oath(person, 0));
        }
    }
}
