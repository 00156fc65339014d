/** What the project's tests share: each test counts its wrong answers here and ends with them. */
final class Check {
    interface Maker {
        PassageCourt make();
    }

    interface Act {
        void on(PassageCourt x);
    }

    private static int wrong = 0;

    private Check() {
    }

    static void due(String what, long got, long want) {
        if (got != want) {
            wrong++;
            System.out.println(what + " answered " + got + ", due is " + want);
        }
    }

    static void due(String what, boolean got, boolean want) {
        due(what, got ? 1 : 0, want ? 1 : 0);
    }

    /** The act throws just this exception, and leaves the object as its untouched twin is. */
    static void refused(String what, Class<?> kind, Maker maker, Act act) {
        PassageCourt touched = maker.make();
        String thrown = thrownBy(touched, act);
        if (!thrown.equals(kind.getName())) {
            wrong++;
            System.out.println(what + " threw " + thrown + ", due is " + kind.getName());
        }
        if (!probe(touched).equals(probe(maker.make()))) {
            wrong++;
            System.out.println(what + " changed something");
        }
    }

    static void taken(String what, Maker maker, Act act) {
        String thrown = thrownBy(maker.make(), act);
        if (!thrown.equals("nothing")) {
            wrong++;
            System.out.println(what + " threw " + thrown + ", due is nothing");
        }
    }

    private static String thrownBy(PassageCourt x, Act act) {
        try {
            act.on(x);
        } catch (RuntimeException e) {
            return e.getClass().getName();
        }
        return "nothing";
    }

    static void end() {
        System.out.println(wrong == 0 ? "all answers are as due" : wrong + " answers are not as due");
        if (wrong != 0) {
            System.exit(1);
        }
    }

    /** All that can be seen of an object, and then what shows only by calls that change it. */
    static String probe(PassageCourt x) {
        StringBuilder text = new StringBuilder(picture(x));
        int lands = landsOf(x);
        for (int i = 0; i < lands; i++) {
            for (int k = 0; k < 3; k++) {
                text.append(" q").append(x.quota(i, k, 0)).append(x.quota(i, k, 2));
            }
            for (int k = 0; k < lands; k++) {
                text.append(i == k ? " -" : " w" + x.waive(i, k, true));
            }
        }
        try {
            text.append(" r").append(x.rule(3600, 0, 1));
        } catch (IllegalStateException e) {
            text.append(" r-");
        }
        try {
            text.append(" t").append(x.pass(1));
        } catch (IllegalStateException e) {
            text.append(" t-");
        }
        text.append(picture(x));
        try {
            text.append(" l").append(x.land(true, true, true, 0));
        } catch (IllegalStateException e) {
            text.append(" l-");
        }
        return text.toString();
    }

    static String picture(PassageCourt x) {
        StringBuilder text = new StringBuilder();
        int lands = landsOf(x);
        for (int p = 0; has(x, p, 0); p++) {
            text.append(" | ").append(x.status(p)).append(' ').append(x.daysAnew(p)).append(' ').append(x.was(p, 0));
            for (int what = 0; what < 5; what++) {
                text.append(' ').append(x.about(p, what));
            }
            for (int i = 0; i < lands; i++) {
                text.append(" : ").append(x.reason(p, i)).append(' ').append(x.permit(p, i));
                for (int k = 0; k < lands; k++) {
                    text.append(' ').append(x.banned(i, p, k));
                }
            }
        }
        for (int v = 0; has(x, v, 1); v++) {
            text.append(" v ").append(x.ofVisa(v, 0)).append(' ').append(x.ofVisa(v, 1)).append(' ').append(x.ofVisa(v, 2));
        }
        for (int r = 0; has(x, r, 2); r++) {
            text.append(" r");
            for (int what = 0; what < 4; what++) {
                text.append(' ').append(x.ofRequest(r, what));
            }
        }
        return text.toString();
    }

    private static int landsOf(PassageCourt x) {
        int lands = 0;
        try {
            for (; lands < 100; lands++) {
                x.permit(0, lands);
            }
        } catch (IndexOutOfBoundsException e) {
            return lands;
        }
        return lands;
    }

    private static boolean has(PassageCourt x, int number, int kind) {
        try {
            if (kind == 0) {
                x.status(number);
            } else if (kind == 1) {
                x.ofVisa(number, 2);
            } else {
                x.ofRequest(number, 1);
            }
        } catch (IndexOutOfBoundsException e) {
            return false;
        }
        return true;
    }
}
