import java.lang.reflect.Constructor;
import java.lang.reflect.Field;
import java.lang.reflect.Method;
import java.lang.reflect.Modifier;
import java.util.TreeSet;

/** The public face: every constant, the constructor and every method, and nothing beside them. */
public final class FaceTest {
    private static final String NO = " IndexOutOfBoundsException", IA = " IllegalArgumentException",
        IS = " IllegalStateException";

    private static final String[] METHODS = {
        "int land(boolean,boolean,boolean,int)" + IA + IS,
        "boolean waive(int,int,boolean)" + NO + IA,
        "int rule(int,int,int)" + IA + IS,
        "int person(int,int)" + NO + IA + IS,
        "int birth(int,int)" + NO + IA + IS,
        "int nation(int,int,boolean)" + NO,
        "int visa(int,int,int,int,int,int)" + NO + IA + IS,
        "int enter(int,int)" + NO + IS,
        "int slip(int,int)" + NO + IS,
        "int move(int,int)" + NO + IS,
        "int leave(int)" + NO + IS,
        "int ban(int,int,int)" + NO + IA,
        "boolean lift(int,int)" + NO,
        "int quota(int,int,int)" + NO + IA,
        "int ask(int,int,int)" + NO + IA + IS,
        "int join(int,int)" + NO + IS,
        "int refuse(int)" + NO + IS,
        "int appeal(int)" + NO + IS,
        "int judge(int,boolean)" + NO + IS,
        "int withdraw(int)" + NO + IS,
        "int extend(int,int)" + NO + IS,
        "int oath(int,int)" + NO + IS,
        "int pass(int)" + IA + IS,
        "int status(int)" + NO,
        "int about(int,int)" + NO + IA,
        "int daysAnew(int)" + NO,
        "int was(int,int)" + NO + IA,
        "int reason(int,int)" + NO,
        "int banned(int,int,int)" + NO,
        "int ofVisa(int,int)" + NO + IA,
        "int ofRequest(int,int)" + NO + IA,
        "int permit(int,int)" + NO,
    };

    private static final String[] CONSTANTS = {
        "NONE -1", "ABROAD 0", "NATIONAL 1", "RESIDENT 2", "VISITOR 3", "OVERSTAYED 4",
        "WAITING 0", "GRANTED 1", "REFUSED 2", "APPEALED 3", "OVER 4",
    };

    public static void main(String[] args) throws IllegalAccessException {
        Check.due("a public final class", PassageCourt.class.getModifiers(), Modifier.PUBLIC | Modifier.FINAL);
        Constructor<?>[] constructors = PassageCourt.class.getDeclaredConstructors();
        Check.due("one constructor", constructors.length, 1);
        Check.due("without parameters", constructors[0].getParameterCount(), 0);
        Check.due("public", constructors[0].getModifiers(), Modifier.PUBLIC);
        same("methods", METHODS, methods());
        same("constants", CONSTANTS, constants());
        for (Class<?> inside : PassageCourt.class.getDeclaredClasses()) {
            Check.due(inside.getName() + " is static", Modifier.isStatic(inside.getModifiers()), true);
            Check.due(inside.getName() + " is public", Modifier.isPublic(inside.getModifiers()), false);
        }
        Check.end();
    }

    private static void same(String what, String[] due, TreeSet<String> found) {
        TreeSet<String> wanted = new TreeSet<>();
        for (String one : due) {
            wanted.add(one);
            Check.due(what + ": " + one, found.contains(one), true);
        }
        for (String one : found) {
            Check.due(what + " beside the face: " + one, wanted.contains(one), true);
        }
    }

    private static TreeSet<String> methods() {
        TreeSet<String> found = new TreeSet<>();
        for (Method method : PassageCourt.class.getDeclaredMethods()) {
            if (Modifier.isPrivate(method.getModifiers())) {
                continue;
            }
            StringBuilder text = new StringBuilder(method.getReturnType() + " " + method.getName() + "(");
            for (Class<?> type : method.getParameterTypes()) {
                text.append(text.charAt(text.length() - 1) == '(' ? "" : ",").append(type);
            }
            text.append(')');
            for (Class<?> kind : method.getExceptionTypes()) {
                text.append(' ').append(kind.getSimpleName());
            }
            found.add(text.toString());
            Check.due(method.getName() + " is public", method.getModifiers(), Modifier.PUBLIC);
        }
        return found;
    }

    private static TreeSet<String> constants() throws IllegalAccessException {
        TreeSet<String> found = new TreeSet<>();
        for (Field field : PassageCourt.class.getDeclaredFields()) {
            if (Modifier.isPrivate(field.getModifiers())) {
                continue;
            }
            Check.due(field.getName(), field.getModifiers(), Modifier.PUBLIC | Modifier.STATIC | Modifier.FINAL);
            found.add(field.getName() + " " + field.getInt(null));
        }
        return found;
    }
}
