/** What the project's tests share: each test counts its wrong answers here and ends with them. */
final class Check {
    interface Maker {
        PassageCourt make();
    }

    interface Act {
        void on(PassageCourt x);
    }

    interface ActWith {
        void on(PassageCourt x, int n);
    }

    private static int wrong = 0;

    private Check() {
    }

    static void due(String what, long got, long want) {
        if (got != want) {
            wrong++;
            System.out.println(what + " answered " + got + ", due is " + want);
        }
    }

    static void due(String what, boolean got, boolean want) {
        due(what, got ? 1 : 0, want ? 1 : 0);
    }

    /** The act throws just this exception, and leaves the object as its untouched twin is. */
    static void refused(String what, Class<?> kind, Maker maker, Act act) {
        String thrown = thrownBy(maker.make(), act);
        if (!thrown.equals(kind.getName())) {
            wrong++;
            System.out.println(what + " threw " + thrown + ", due is " + kind.getName());
        }
        unchanged(what, maker, act);
    }

    /** The act, whatever it answers, leaves the object as its untouched twin is. */
    static void unchanged(String what, Maker maker, Act act) {
        String touched = Twin.storyOf(maker, x -> thrownBy(x, act));
        String untouched = Twin.storyOf(maker, x -> { });
        if (!touched.equals(untouched)) {
            wrong++;
            System.out.println(what + " changed something");
        }
    }

    static void taken(String what, Maker maker, Act act) {
        String thrown = thrownBy(maker.make(), act);
        if (!thrown.equals("nothing")) {
            wrong++;
            System.out.println(what + " threw " + thrown + ", due is nothing");
        }
    }

    /** A number that may be first to last: both are taken, their neighbours and the farthest numbers are refused. */
    static void range(String what, Class<?> kind, Maker maker, int first, int last, ActWith act) {
        for (int n : new int[] {first, last}) {
            taken(what + " " + n, maker, x -> act.on(x, n));
        }
        for (int n : new int[] {first - 1, last + 1, Integer.MIN_VALUE, Integer.MAX_VALUE}) {
            refused(what + " " + n, kind, maker, x -> act.on(x, n));
        }
    }

    static void passTo(PassageCourt x, int from, int to) {
        for (int day = from; day < to; day += 100) {
            x.pass(Math.min(100, to - day));
        }
    }

    static String thrownBy(PassageCourt x, Act act) {
        try {
            act.on(x);
        } catch (RuntimeException e) {
            return nameOf(e);
        }
        return "nothing";
    }

    /** What the library throws under the class is never due, though it may be of a kind that is. */
    static String nameOf(RuntimeException e) {
        StackTraceElement[] trace = e.getStackTrace();
        boolean isItsOwn = trace.length > 0 && trace[0].getClassName().startsWith("PassageCourt");
        return isItsOwn ? e.getClass().getName() : "of the library " + e.getClass().getName();
    }

    static void end() {
        System.out.println(wrong == 0 ? "all answers are as due" : wrong + " answers are not as due");
        if (wrong != 0) {
            System.exit(1);
        }
    }
}
