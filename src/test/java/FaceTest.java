import java.lang.reflect.Constructor;
import java.lang.reflect.Executable;
import java.lang.reflect.Field;
import java.lang.reflect.Method;
import java.lang.reflect.Modifier;
import java.util.Arrays;
import java.util.Set;
import java.util.TreeSet;

/** The public face: the members that the document names, and no other. */
final class FaceTest {
    private static final String IAE = "IllegalArgumentException";
    private static final String ISE = "IllegalStateException";
    private static final String IOOBE = "IndexOutOfBoundsException";

    private FaceTest() {
    }

    static void run() {
        constants();
        members();
    }

    private static void constants() {
        Checks.same("NONE", -1, SailLog.NONE);
        Checks.same("NEITHER", 0, SailLog.NEITHER);
        Checks.same("STARBOARD", 1, SailLog.STARBOARD);
        Checks.same("PORT", 2, SailLog.PORT);
        Checks.same("NO_TURN", 0, SailLog.NO_TURN);
        Checks.same("TACK", 1, SailLog.TACK);
        Checks.same("GYBE", 2, SailLog.GYBE);
    }

    private static void members() {
        Set<String> due = new TreeSet<>(Arrays.asList(
                "int NONE", "int NEITHER", "int STARBOARD", "int PORT", "int NO_TURN",
                "int TACK", "int GYBE", "SailLog()",
                "int log(int int int int int) " + IAE + " " + ISE,
                "int setFaults(int int int) " + IAE,
                "int setTide(int int int) " + IOOBE + " " + IAE, "int entries()",
                "int sine(int)", "int speed(int) " + IOOBE, "int strength(int) " + IOOBE,
                "int angle(int) " + IOOBE, "int from(int) " + IOOBE, "int side(int) " + IOOBE,
                "int best(int int) " + IOOBE, "int bestByLog(int int) " + IOOBE,
                "int bestUp(int) " + IOOBE, "int bestDown(int) " + IOOBE,
                "int bestCourse(int int int) " + IOOBE + " " + IAE, "int turn(int) " + IOOBE,
                "int cost(int) " + IOOBE, "int costs(int) " + IAE, "int east(int) " + IOOBE,
                "int north(int) " + IOOBE, "int vaneShown()"));
        Set<String> found = new TreeSet<>();
        int constant = Modifier.PUBLIC | Modifier.STATIC | Modifier.FINAL;
        for (Field field : SailLog.class.getDeclaredFields()) {
            if (!Modifier.isPrivate(field.getModifiers())) {
                found.add(field.getType().getSimpleName() + " " + field.getName());
                Checks.holds(field + " is a constant", field.getModifiers() == constant);
            }
        }
        for (Constructor<?> constructor : SailLog.class.getDeclaredConstructors()) {
            found.add("SailLog" + written(constructor));
            Checks.holds(constructor + " is public",
                    constructor.getModifiers() == Modifier.PUBLIC);
        }
        for (Method method : SailLog.class.getDeclaredMethods()) {
            if (!Modifier.isPrivate(method.getModifiers())) {
                found.add(method.getReturnType().getSimpleName() + " " + method.getName()
                        + written(method));
                Checks.holds(method + " is public", method.getModifiers() == Modifier.PUBLIC);
            }
        }
        Checks.holds("the face is " + found, found.equals(due));
        Checks.holds("the class is public and final",
                SailLog.class.getModifiers() == (Modifier.PUBLIC | Modifier.FINAL));
        for (Class<?> inside : SailLog.class.getDeclaredClasses()) {
            int modifiers = inside.getModifiers();
            Checks.holds(inside.getName() + " is hidden and static",
                    Modifier.isStatic(modifiers) && !Modifier.isPublic(modifiers)
                            && !Modifier.isProtected(modifiers));
        }
    }

    private static String written(Executable call) {
        StringBuilder text = new StringBuilder();
        for (Class<?> type : call.getParameterTypes()) {
            text.append(text.length() == 0 ? "(" : " ").append(type.getSimpleName());
        }
        text.append(text.length() == 0 ? "()" : ")");
        for (Class<?> thrown : call.getExceptionTypes()) {
            text.append(' ').append(thrown.getSimpleName());
        }
        return text.toString();
    }
}
