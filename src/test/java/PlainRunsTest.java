import java.lang.reflect.InvocationTargetException;
import java.lang.reflect.Method;
import java.util.ArrayList;
import java.util.HashMap;
import java.util.List;
import java.util.Map;

/**
 * Runs of up to 512 calls that a fixed sequence of numbers chooses, each asked of PassageCourt and of Plain: all
 * answers and all exceptions are the same. Some runs stay at the borders, day by day, others go on for years.
 */
public final class PlainRunsTest {
    private static final int RUNS = 1200, CALLS = 512, LOOKED_AT_LAST = 90;

    /** Each call of the face, how often it is chosen at the borders and in long runs, and what its arguments are. */
    private static final String[] FACE = {
        "land 1 1 bool bool bool late", "waive 4 3 land land bool", "rule 2 1 later most window",
        "person 1 1 landOrNone age", "birth 2 2 person personOrNone", "nation 3 2 person land bool",
        "visa 6 4 person land later last entries days", "enter 22 10 person land", "slip 4 4 person land",
        "move 12 5 person land", "leave 14 5 person", "ban 3 2 land person length", "lift 3 2 land person",
        "quota 1 4 land type quota", "ask 3 9 person land type", "join 2 4 request person", "refuse 2 4 request",
        "appeal 2 4 request", "judge 2 4 request bool", "withdraw 1 1 request", "extend 1 14 person land",
        "oath 1 9 person land", "pass 26 26 pass", "status 6 6 person", "about 10 8 person what5",
        "daysAnew 3 3 person", "was 5 4 person day", "reason 8 6 person land", "banned 5 4 land person land",
        "ofVisa 5 3 visa what3", "ofRequest 3 8 request what4", "permit 3 6 person land",
    };

    private static final Map<String, Method> OF_COURT = methods(PassageCourt.class);
    private static final Map<String, Method> OF_PLAIN = methods(Plain.class);
    private static long seed = 20261119;

    private final PassageCourt court = new PassageCourt();
    private final Plain plain = new Plain();
    private final List<String> said = new ArrayList<>();
    private final boolean isLong;
    private boolean isAlike = true;

    private PlainRunsTest(boolean isLong) {
        this.isLong = isLong;
    }

    public static void main(String[] args) {
        boolean areAlike = true;
        for (int run = 0; run < RUNS && areAlike; run++) {
            PlainRunsTest one = new PlainRunsTest(run % 2 == 1);
            one.go();
            areAlike = one.isAlike;
        }
        Check.due("all runs are alike", areAlike, true);
        Check.end();
    }

    private void go() {
        begin();
        while (isAlike && said.size() < CALLS - LOOKED_AT_LAST) {
            String[] call = choose();
            say(call[0], likely(call));
        }
        while (isAlike && said.size() < CALLS) {
            String[] call = FACE[FACE.length - 1 - next(9)].split(" ");
            say(call[0], arguments(call));
        }
    }

    /** Some lands, persons, waivers, rules and quotas, so that the run comes to something. */
    private void begin() {
        for (int i = 2 + next(4); i > 0; i--) {
            say("land", next(3) > 0, next(2) == 0, next(2) == 0, next(3) == 0 ? 0 : next(31));
        }
        for (int i = 2 + next(4); i > 0; i--) {
            say("person", next(plain.lands() + 1) - 1, next(100));
        }
        for (int i = next(8); i > 0; i--) {
            say("waive", next(plain.lands()), next(plain.lands()), true);
        }
        for (int i = isLong ? 0 : next(4); i > 0; i--) {
            say("rule", next(20), next(8), 1 + next(24));
        }
        for (int i = isLong ? 8 : 0; i > 0; i--) {
            say("quota", next(plain.lands()), next(3), next(4));
            say("ask", next(plain.persons()), next(plain.lands()), next(3));
        }
    }

    private void say(String name, Object... arguments) {
        String answer = answerOf(OF_COURT.get(name), court, arguments);
        String due = answerOf(OF_PLAIN.get(name), plain, arguments);
        said.add(name + List.of(arguments) + " answered " + answer);
        if (!answer.equals(due)) {
            isAlike = false;
            System.out.println(String.join("\n", said) + ", due is " + due);
        }
    }

    private static String answerOf(Method method, Object one, Object[] arguments) {
        try {
            return method.invoke(one, arguments).toString();
        } catch (InvocationTargetException e) {
            RuntimeException thrown = (RuntimeException) e.getCause();
            return one instanceof PassageCourt ? Check.nameOf(thrown) : thrown.getClass().getName();
        } catch (IllegalAccessException e) {
            throw new IllegalStateException(e);
        }
    }

    // ---- choosing

    private static Map<String, Method> methods(Class<?> of) {
        Map<String, Method> found = new HashMap<>();
        for (Method method : of.getDeclaredMethods()) {
            found.put(method.getName(), method);
        }
        return found;
    }

    private static int next(int bound) {
        seed = seed * 6364136223846793005L + 1442695040888963407L;
        return (int) ((seed >>> 33) % bound);
    }

    private String[] choose() {
        int column = isLong ? 2 : 1;
        int all = 0;
        for (String line : FACE) {
            all += Integer.parseInt(line.split(" ")[column]);
        }
        int at = next(all);
        for (String line : FACE) {
            String[] call = line.split(" ");
            at -= Integer.parseInt(call[column]);
            if (at < 0) {
                return call;
            }
        }
        throw new IllegalStateException();
    }

    /** Mostly arguments with which the call does something: what is refused is seen often enough without. */
    private Object[] likely(String[] call) {
        Object[] arguments = arguments(call);
        for (int i = 0; i < 8 && !isLikely(call[0], arguments); i++) {
            arguments = arguments(call);
        }
        return arguments;
    }

    private boolean isLikely(String name, Object[] arguments) {
        int first = arguments[0] instanceof Integer ? (Integer) arguments[0] : 0;
        int second = arguments.length > 1 && arguments[1] instanceof Integer ? (Integer) arguments[1] : 0;
        boolean isPerson = first >= 0 && first < plain.persons();
        boolean isRequest = first >= 0 && first < plain.requests();
        boolean isLand = second >= 0 && second < plain.lands();
        switch (name) {
            case "enter": case "slip":
                return isPerson && plain.about(first, 0) == PassageCourt.NONE;
            case "move": case "leave": case "birth":
                return isPerson && plain.about(first, 0) != PassageCourt.NONE;
            case "extend":
                return isPerson && isLand && plain.permit(first, second) >= 0;
            case "oath":
                return isPerson && isLand && plain.permit(first, second) >= 0 && plain.about(first, 0) == second;
            case "refuse": case "join":
                return isRequest && plain.ofRequest(first, 0) == PassageCourt.WAITING;
            case "appeal":
                return isRequest && plain.ofRequest(first, 0) == PassageCourt.REFUSED;
            case "judge":
                return isRequest && plain.ofRequest(first, 0) == PassageCourt.APPEALED;
            default:
                return true;
        }
    }

    private Object[] arguments(String[] call) {
        Object[] found = new Object[call.length - 3];
        for (int i = 0; i < found.length; i++) {
            found[i] = argument(call[i + 3]);
        }
        return found;
    }

    private Object argument(String kind) {
        int today = plain.today();
        switch (kind) {
            case "bool": return next(3) > 0;
            case "late": return mostlyIn(0, 30);
            case "land": return mostlyIn(0, plain.lands() - 1);
            case "landOrNone": return mostlyIn(-1, plain.lands() - 1);
            case "person": return mostlyIn(0, plain.persons() - 1);
            case "personOrNone": return mostlyIn(-1, plain.persons() - 1);
            case "visa": return mostlyIn(0, plain.visas() - 1);
            case "request": return mostlyIn(0, plain.requests() - 1);
            case "later": return next(2) == 0 ? today : mostlyIn(today, Math.min(3600, today + 30));
            case "last": return mostlyIn(Math.min(3600, today + 4), Math.min(3600, today + 70));
            case "most": return mostlyIn(0, next(3) == 0 ? 180 : 9);
            case "window": return mostlyIn(1, next(3) == 0 ? 360 : 30);
            case "age": return mostlyIn(0, 99);
            case "entries": return mostlyIn(1, next(2) == 0 ? 2 : 9);
            case "days": return mostlyIn(1, next(2) == 0 ? 5 : 90);
            case "length": return mostlyIn(1, next(2) == 0 ? 12 : 720);
            case "type": return mostlyIn(0, 2);
            case "quota": return mostlyIn(0, next(2) == 0 ? 2 : 9);
            case "pass": return isLong ? mostlyIn(1, 100) : next(3) > 0 ? 1 : mostlyIn(1, 12);
            case "day": return next(3) == 0 ? today : mostlyIn(0, today);
            case "what3": return mostlyIn(0, 2);
            case "what4": return mostlyIn(0, 3);
            case "what5": return mostlyIn(0, 4);
            default: throw new IllegalStateException(kind);
        }
    }

    private static int mostlyIn(int first, int last) {
        if (next(40) == 0) {
            int[] others = {first - 1, last + 1, Integer.MIN_VALUE, Integer.MAX_VALUE};
            return others[next(others.length)];
        }
        return first + next(Math.max(1, last - first + 1));
    }
}
