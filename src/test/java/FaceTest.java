import java.lang.reflect.Constructor;
import java.lang.reflect.Field;
import java.lang.reflect.Method;
import java.lang.reflect.Modifier;
import java.util.Arrays;
import java.util.Set;
import java.util.TreeSet;

/** The public face: the members that the document names, and no other. */
final class FaceTest {
    private static final String IAE = "IllegalArgumentException";
    private static final String ISE = "IllegalStateException";
    private static final String IOOBE = "IndexOutOfBoundsException";

    private FaceTest() {
    }

    static void run() {
        constants();
        members();
    }

    private static void constants() {
        Checks.same("NONE", -1, SailLog.NONE);
        Checks.same("NEITHER", 0, SailLog.NEITHER);
        Checks.same("STARBOARD", 1, SailLog.STARBOARD);
        Checks.same("PORT", 2, SailLog.PORT);
        Checks.same("NO_TURN", 0, SailLog.NO_TURN);
        Checks.same("TACK", 1, SailLog.TACK);
        Checks.same("GYBE", 2, SailLog.GYBE);
    }

    private static void members() {
        Set<String> due = new TreeSet<>(Arrays.asList(
                "field NONE", "field NEITHER", "field STARBOARD", "field PORT",
                "field NO_TURN", "field TACK", "field GYBE", "constructor 0",
                "log 5 " + IAE + " " + ISE, "setFaults 3 " + IAE,
                "setTide 3 " + IOOBE + " " + IAE, "entries 0", "sine 1",
                "speed 1 " + IOOBE, "strength 1 " + IOOBE, "angle 1 " + IOOBE,
                "from 1 " + IOOBE, "side 1 " + IOOBE,
                "best 2 " + IOOBE, "bestByLog 2 " + IOOBE, "bestUp 1 " + IOOBE,
                "bestDown 1 " + IOOBE, "bestCourse 3 " + IOOBE + " " + IAE,
                "turn 1 " + IOOBE, "cost 1 " + IOOBE, "costs 1 " + IAE,
                "east 1 " + IOOBE, "north 1 " + IOOBE, "vaneShown 0"));
        Set<String> found = new TreeSet<>();
        for (Field field : SailLog.class.getDeclaredFields()) {
            if (!Modifier.isPrivate(field.getModifiers())) {
                found.add("field " + field.getName());
            }
        }
        for (Constructor<?> constructor : SailLog.class.getDeclaredConstructors()) {
            found.add("constructor " + constructor.getParameterCount());
        }
        for (Method method : SailLog.class.getDeclaredMethods()) {
            if (!Modifier.isPrivate(method.getModifiers())) {
                found.add(written(method));
            }
        }
        Checks.holds("the face is " + found, found.equals(due));
        Checks.holds("the class is public and final",
                SailLog.class.getModifiers() == (Modifier.PUBLIC | Modifier.FINAL));
        for (Class<?> inside : SailLog.class.getDeclaredClasses()) {
            int modifiers = inside.getModifiers();
            Checks.holds(inside.getName() + " is hidden and static",
                    Modifier.isStatic(modifiers) && !Modifier.isPublic(modifiers)
                            && !Modifier.isProtected(modifiers));
        }
    }

    private static String written(Method method) {
        StringBuilder text = new StringBuilder();
        text.append(method.getName()).append(' ').append(method.getParameterCount());
        for (Class<?> thrown : method.getExceptionTypes()) {
            text.append(' ').append(thrown.getSimpleName());
        }
        return text.toString();
    }
}
