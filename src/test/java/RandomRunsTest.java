/**
 * Runs of calls that a fixed sequence of numbers chooses, with arguments in range and out of it:
 * nothing is thrown but what the face names, and the days that count are the same, kept and found anew.
 */
public final class RandomRunsTest {
    private static final int RUNS = 300, CALLS = 320;
    private static long seed = 20261118;

    public static void main(String[] args) {
        for (int run = 0; run < RUNS; run++) {
            PassageCourt x = new PassageCourt();
            for (int call = 0; call < CALLS; call++) {
                int which = call < 30 ? next(8) : next(29);
                String thrown = thrownBy(x, which);
                boolean isNamed = thrown.isEmpty() || thrown.equals("java.lang.IndexOutOfBoundsException")
                    || thrown.equals("java.lang.IllegalArgumentException")
                    || thrown.equals("java.lang.IllegalStateException");
                Check.due("run " + run + ", call " + call + " of kind " + which + " throws only what is named, not "
                    + thrown, isNamed, true);
                if (call % 16 == 0) {
                    sameDays(x, "run " + run + ", call " + call);
                }
            }
        }
        extremes();
        Check.end();
    }

    private static int next(int bound) {
        seed = seed * 6364136223846793005L + 1442695040888963407L;
        return (int) ((seed >>> 33) % bound);
    }

    /** Mostly a small number that is in range, now and then one that is not. */
    private static int some(int bound) {
        return next(12) == 0 ? next(bound + 4) - 2 : next(Math.max(1, bound));
    }

    private static void sameDays(PassageCourt x, String where) {
        for (int p = 0; p < 4; p++) {
            try {
                Check.due(where + ": days of " + p, x.about(p, 2), x.daysAnew(p));
            } catch (IndexOutOfBoundsException e) {
                return;
            }
        }
    }

    private static String thrownBy(PassageCourt x, int which) {
        try {
            if (which < 8) {
                tell(x, which);
            } else if (which < 20) {
                cross(x, which);
            } else {
                settle(x, which);
            }
        } catch (RuntimeException e) {
            return Check.nameOf(e);
        }
        return "";
    }

    private static void tell(PassageCourt x, int which) {
        switch (which) {
            case 0: x.land(next(3) > 0, next(2) == 0, next(2) == 0, some(31)); break;
            case 1: x.waive(some(5), some(5), next(3) > 0); break;
            case 2: x.rule(some(3600), some(20), 1 + some(60)); break;
            case 3: x.person(some(5) - 1, some(100)); break;
            case 4: x.birth(some(5), some(6) - 1); break;
            case 5: x.nation(some(5), some(5), next(2) == 0); break;
            case 6: x.visa(some(5), some(5), some(700), some(1400), some(10), some(30)); break;
            default: x.quota(some(5), some(3), some(6)); break;
        }
    }

    private static void cross(PassageCourt x, int which) {
        switch (which) {
            case 8: case 9: x.enter(some(5), some(5)); break;
            case 10: x.slip(some(5), some(5)); break;
            case 11: case 12: x.move(some(5), some(5)); break;
            case 13: x.leave(some(5)); break;
            case 14: x.ban(some(5), some(5), some(40)); break;
            case 15: x.lift(some(5), some(5)); break;
            case 16: x.reason(some(5), some(5)); break;
            case 17: x.banned(some(5), some(5), some(5)); break;
            case 18: x.was(some(5), some(1800)); break;
            default: x.pass(some(60)); break;
        }
    }

    private static void settle(PassageCourt x, int which) {
        switch (which) {
            case 20: x.ask(some(5), some(5), some(3)); break;
            case 21: x.join(some(12), some(5)); break;
            case 22: x.refuse(some(12)); break;
            case 23: x.appeal(some(12)); break;
            case 24: x.judge(some(12), next(2) == 0); break;
            case 25: x.withdraw(some(12)); break;
            case 26: x.extend(some(5), some(5)); break;
            case 27: x.oath(some(5), some(5)); break;
            default: x.ofRequest(some(12), some(4)); x.ofVisa(some(10), some(3)); break;
        }
    }

    private static void extremes() {
        int[] far = {Integer.MIN_VALUE, Integer.MIN_VALUE + 1, Integer.MAX_VALUE - 1, Integer.MAX_VALUE};
        for (int n : far) {
            PassageCourt x = new PassageCourt();
            x.land(true, true, true, 0);
            x.person(0, 1);
            refuses("late", "IllegalArgumentException", () -> x.land(true, true, true, n));
            refuses("day", "IllegalArgumentException", () -> x.rule(n, 1, 1));
            refuses("most", "IllegalArgumentException", () -> x.rule(1, n, 1));
            refuses("window", "IllegalArgumentException", () -> x.rule(1, 1, n));
            refuses("age", "IllegalArgumentException", () -> x.person(0, n));
            refuses("first", "IllegalArgumentException", () -> x.visa(0, 0, n, n, 1, 1));
            refuses("last", "IllegalArgumentException", () -> x.visa(0, 0, 1, n, 1, 1));
            refuses("entries", "IllegalArgumentException", () -> x.visa(0, 0, 1, 1, n, 1));
            refuses("days", "IllegalArgumentException", () -> x.visa(0, 0, 1, 1, 1, n));
            refuses("ban", "IllegalArgumentException", () -> x.ban(0, 0, n));
            refuses("pass", "IllegalArgumentException", () -> x.pass(n));
            refuses("was", "IllegalArgumentException", () -> x.was(0, n));
            refuses("person", "IndexOutOfBoundsException", () -> x.status(n));
            refuses("land", "IndexOutOfBoundsException", () -> x.reason(0, n));
            refuses("visa", "IndexOutOfBoundsException", () -> x.ofVisa(n, n));
            refuses("request", "IndexOutOfBoundsException", () -> x.ofRequest(n, n));
        }
    }

    private static void refuses(String what, String due, Runnable call) {
        String thrown = "nothing";
        try {
            call.run();
        } catch (RuntimeException e) {
            thrown = e.getClass().getSimpleName();
        }
        Check.due(what + " at its farthest threw " + thrown + ", due is " + due, thrown.equals(due), true);
    }
}
