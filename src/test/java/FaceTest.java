import java.lang.reflect.Constructor;
import java.lang.reflect.Executable;
import java.lang.reflect.Field;
import java.lang.reflect.Method;
import java.lang.reflect.Modifier;
import java.util.Arrays;
import java.util.Set;
import java.util.StringJoiner;
import java.util.TreeSet;

/** The lines of "The public face" and the heads of the promises: they are there, and no other. */
final class FaceTest {
    private static final String FACE = "The public face";
    private static final String IAE = " throws IllegalArgumentException";
    private static final String IOOBE = " throws IndexOutOfBoundsException";

    /** In the order of the document: the first one is of promise 1, the last one of 22. */
    private static final String[] CALLS = {
        "SailLog()",
        "int log(int minute, int speed, int heading, int strength, int angle)" + IAE
            + ", IllegalStateException",
        "int setFaults(int factor, int compass, int vane)" + IAE,
        "int setTide(int hour, int direction, int drift)" + IOOBE + ", IllegalArgumentException",
        "int entries()",
        "int sine(int angle)",
        "int speed(int entry)" + IOOBE,
        "int strength(int entry)" + IOOBE,
        "int angle(int entry)" + IOOBE,
        "int from(int entry)" + IOOBE,
        "int side(int entry)" + IOOBE,
        "int best(int row, int column)" + IOOBE,
        "int bestByLog(int row, int column)" + IOOBE,
        "int bestUp(int column)" + IOOBE,
        "int bestDown(int column)" + IOOBE,
        "int bestCourse(int column, int from, int bearing)" + IOOBE
            + ", IllegalArgumentException",
        "int turn(int entry)" + IOOBE,
        "int cost(int entry)" + IOOBE,
        "int costs(int kind)" + IAE,
        "int east(int entry)" + IOOBE,
        "int north(int entry)" + IOOBE,
        "int vaneShown()",
    };

    private static final String[] CONSTANTS = {
        "NONE", "NEITHER", "STARBOARD", "PORT", "NO_TURN", "TACK", "GYBE",
    };

    private FaceTest() {
    }

    static void run() {
        Document.asksNothing(FACE, "```java\n");
        Document.holds(FACE, "public final class SailLog {", FaceTest::publicAndFinal);
        Document.holds(FACE, "public static final int NONE = -1;", FaceTest::none);
        Document.holds(FACE, "public static final int NEITHER = 0, STARBOARD = 1, PORT = 2;",
                FaceTest::sides);
        Document.holds(FACE, "public static final int NO_TURN = 0, TACK = 1, GYBE = 2;",
                FaceTest::kinds);
        for (int i = 0; i < CALLS.length; i++) {
            String call = CALLS[i];
            Document.holds(FACE, "public " + call + ";", () -> isThere(call));
            Document.holds(headingOf(i), "`" + call + "`: ", () -> isThere(call));
        }
        Document.asksNothing(FACE, "}\n```");
        Checks.group(FACE, FaceTest::noOtherMembers);
    }

    private static String headingOf(int call) {
        String name = CALLS[call].replaceAll("int (\\w+)\\(.*", "$1");
        return "Promise " + (call + 1) + ": " + (call == 0 ? "A new object" : name);
    }

    private static void publicAndFinal() {
        Checks.holds("the class is public and final",
                SailLog.class.getModifiers() == (Modifier.PUBLIC | Modifier.FINAL));
        Checks.holds("the class stands in no package", SailLog.class.getPackageName().isEmpty());
        Checks.holds("it is below no other class",
                SailLog.class.getSuperclass() == Object.class);
    }

    private static void none() {
        Checks.same("NONE", -1, SailLog.NONE);
        isConstant("NONE");
    }

    private static void sides() {
        Checks.same("NEITHER", 0, SailLog.NEITHER);
        Checks.same("STARBOARD", 1, SailLog.STARBOARD);
        Checks.same("PORT", 2, SailLog.PORT);
        isConstant("NEITHER");
        isConstant("STARBOARD");
        isConstant("PORT");
    }

    private static void kinds() {
        Checks.same("NO_TURN", 0, SailLog.NO_TURN);
        Checks.same("TACK", 1, SailLog.TACK);
        Checks.same("GYBE", 2, SailLog.GYBE);
        isConstant("NO_TURN");
        isConstant("TACK");
        isConstant("GYBE");
    }

    private static void isConstant(String name) {
        boolean found = false;
        for (Field field : SailLog.class.getDeclaredFields()) {
            found |= field.getName().equals(name) && field.getType() == int.class
                    && field.getModifiers()
                            == (Modifier.PUBLIC | Modifier.STATIC | Modifier.FINAL);
        }
        Checks.holds(name + " is a constant", found);
    }

    private static void isThere(String call) {
        boolean found = false;
        for (Constructor<?> constructor : SailLog.class.getDeclaredConstructors()) {
            found |= constructor.getModifiers() == Modifier.PUBLIC
                    && written(constructor).equals(withoutNames(call));
        }
        for (Method method : SailLog.class.getDeclaredMethods()) {
            found |= method.getModifiers() == Modifier.PUBLIC
                    && written(method).equals(withoutNames(call));
        }
        Checks.holds(withoutNames(call) + " is there", found);
    }

    private static String withoutNames(String call) {
        return call.replaceAll("int \\w+([,)])", "int$1");
    }

    private static String written(Executable call) {
        StringJoiner types = new StringJoiner(", ", "(", ")");
        for (Class<?> type : call.getParameterTypes()) {
            types.add(type.getSimpleName());
        }
        StringJoiner thrown = new StringJoiner(", ", " throws ", "").setEmptyValue("");
        for (Class<?> type : call.getExceptionTypes()) {
            thrown.add(type.getSimpleName());
        }
        String name = call instanceof Method method
                ? method.getReturnType().getSimpleName() + " " + method.getName() : "SailLog";
        return name + types + thrown;
    }

    private static void noOtherMembers() {
        Set<String> due = new TreeSet<>(Arrays.asList(CONSTANTS));
        for (String call : CALLS) {
            due.add(withoutNames(call));
        }
        for (Field field : SailLog.class.getDeclaredFields()) {
            isDueOrHidden(field.getModifiers(), field.getName(), due);
        }
        for (Constructor<?> constructor : SailLog.class.getDeclaredConstructors()) {
            isDueOrHidden(constructor.getModifiers(), written(constructor), due);
        }
        for (Method method : SailLog.class.getDeclaredMethods()) {
            isDueOrHidden(method.getModifiers(), written(method), due);
        }
        for (Class<?> inside : SailLog.class.getDeclaredClasses()) {
            int modifiers = inside.getModifiers();
            Checks.holds(inside.getName() + " is hidden and static",
                    Modifier.isStatic(modifiers) && !Modifier.isPublic(modifiers)
                            && !Modifier.isProtected(modifiers));
        }
    }

    private static void isDueOrHidden(int modifiers, String member, Set<String> due) {
        Checks.holds(member + " is no part of the face",
                Modifier.isPrivate(modifiers) || due.contains(member));
    }
}
