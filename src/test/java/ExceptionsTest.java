import java.util.ArrayList;
import java.util.List;

/** The sentences of "Exceptions", with the constants that are told there. */
final class ExceptionsTest {
    private static final String EXCEPTIONS = "Exceptions";

    /** A call that is refused. */
    private interface Refused {
        int answer(SailLog log);
    }

    private ExceptionsTest() {
    }

    static void run() {
        Document.holds(EXCEPTIONS, "IndexOutOfBoundsException: there is no such entry, row, "
                + "column, hour or mark.", ExceptionsTest::noSuchThing);
        Document.holds(EXCEPTIONS, "IllegalArgumentException: another argument is out of range.",
                ExceptionsTest::argumentOutOfRange);
        Document.holds(EXCEPTIONS, "IllegalStateException: as the method says.",
                ExceptionsTest::badState);
        Document.holds(EXCEPTIONS, "The first line of a method's throws clause that applies "
                + "decides;", ExceptionsTest::firstLineDecides);
        Document.holds(EXCEPTIONS, "a call that throws changes nothing.",
                ExceptionsTest::refusalsChangeNothing);
        Document.holds(EXCEPTIONS, "The constants: `NONE = -1`: There is none.",
                ExceptionsTest::none);
        Document.holds(EXCEPTIONS, "`NEITHER = 0, STARBOARD = 1, PORT = 2`: Sides.",
                ExceptionsTest::sides);
        Document.holds(EXCEPTIONS, "`NO_TURN = 0, TACK = 1, GYBE = 2`: Kinds of turns.",
                ExceptionsTest::kindsOfTurns);
        String[] parts = {
            "`log`, `setFaults`, `setTide`, `entries`, `sine` the interface says: ---- the log.",
            "`speed`, `strength`, `angle`, `from`, `side` the interface says: ---- the wind.",
            "`best`, `bestByLog`, `bestUp`, `bestDown`, `bestCourse` the interface says: "
                + "---- the table.",
            "`turn`, `cost`, `costs` the interface says: ---- turns.",
            "`east`, `north`, `vaneShown` the interface says: ---- places.",
        };
        for (String part : parts) {
            Document.asksNothing(EXCEPTIONS, "Ahead of the calls " + part);
        }
    }

    private static void noSuchThing() {
        SailLog x = Logs.still(60, 300);
        Checks.noEntry("entry below", () -> x.speed(-1));
        Checks.noEntry("entry above", () -> x.speed(2));
        Checks.noEntry("row below", () -> x.best(-1, 0));
        Checks.noEntry("row above", () -> x.best(19, 0));
        Checks.noEntry("column below", () -> x.best(0, -1));
        Checks.noEntry("column above", () -> x.best(0, 10));
        Checks.noEntry("hour below", () -> x.setTide(-1, 0, 0));
        Checks.noEntry("hour above", () -> x.setTide(24, 0, 0));
        // 256 and 65536 are 0 where bits are cut off.
        int[] farOut = {Integer.MIN_VALUE, Integer.MAX_VALUE, 256, -256, 65536};
        for (int number : farOut) {
            Checks.noEntry("entry " + number, () -> x.angle(number));
            Checks.noEntry("row " + number, () -> x.bestByLog(number, 0));
            Checks.noEntry("column " + number, () -> x.bestUp(number));
            Checks.noEntry("hour " + number, () -> x.setTide(number, 0, 0));
        }
        // A mark is told by its bearing alone, and promise 16 says what a bearing throws.
        Checks.outOfRange("bearing of a mark", () -> x.bestCourse(0, 0, 360));
    }

    private static void argumentOutOfRange() {
        SailLog x = Logs.still(60, 300);
        Checks.outOfRange("log", () -> x.log(2, 301, 0, 0, 0));
        Checks.outOfRange("setFaults", () -> x.setFaults(1000, 0, 21));
        Checks.outOfRange("setTide", () -> x.setTide(0, 0, 101));
        Checks.outOfRange("bestCourse", () -> x.bestCourse(0, 0, 360));
        Checks.outOfRange("costs", () -> x.costs(3));
        Checks.same("sine has no range", 0, x.sine(Integer.MAX_VALUE - 127));
    }

    private static void badState() {
        SailLog x = Logs.still(60, 300);
        Checks.badState("log at the latest minute", () -> x.log(1, 0, 0, 0, 0));
        SailLog full = Logs.full(Logs.told(0, 0, 0, 0), Logs.told(0, 0, 0, 0),
                Logs.told(0, 0, 0, 0));
        Checks.badState("log beyond 60", () -> full.log(1439, 0, 0, 0, 0));
        Checks.badState("both at once", () -> full.log(0, 0, 0, 0, 0));
        // No other call looks at the state.
        Checks.same("a full log's faults", 1000, full.setFaults(1000, 0, 0));
        Checks.same("a full log's tide", 0, full.setTide(0, 0, 0));
        Checks.same("an empty log's faults", 1000, new SailLog().setFaults(1000, 0, 0));
    }

    private static void firstLineDecides() {
        SailLog early = Logs.still(60, 300);
        SailLog full = Logs.full(Logs.told(0, 0, 0, 0), Logs.told(0, 0, 0, 0),
                Logs.told(0, 0, 0, 0));
        for (SailLog x : new SailLog[] {early, full}) {
            Checks.outOfRange("log: minute first", () -> x.log(-1, 0, 0, 0, 0));
            Checks.outOfRange("log: speed first", () -> x.log(0, 301, 0, 0, 0));
            Checks.outOfRange("log: heading first", () -> x.log(0, 0, 360, 0, 0));
            Checks.outOfRange("log: strength first", () -> x.log(0, 0, 0, 601, 0));
            Checks.outOfRange("log: angle first", () -> x.log(0, 0, 0, 0, 360));
            Checks.noEntry("setTide: hour before direction", () -> x.setTide(24, -1, 0));
            Checks.noEntry("setTide: hour before drift", () -> x.setTide(-1, 0, 101));
            Checks.noEntry("setTide: hour before both", () -> x.setTide(24, 360, -1));
            Checks.noEntry("bestCourse: column before from", () -> x.bestCourse(10, -1, 0));
            Checks.noEntry("bestCourse: column before bearing", () -> x.bestCourse(-1, 0, 360));
            Checks.noEntry("bestCourse: column before both", () -> x.bestCourse(10, 360, -1));
        }
    }

    private static void refusalsChangeNothing() {
        Refused[] refused = {
            x -> x.log(1440, 299, 7, 555, 111), x -> x.log(800, 301, 7, 555, 111),
            x -> x.log(800, 299, 360, 555, 111), x -> x.log(800, 299, 7, 601, 111),
            x -> x.log(800, 299, 7, 555, 360), x -> x.log(-1, 299, 7, 555, 111),
            x -> x.setFaults(1501, 1, 2), x -> x.setFaults(499, 1, 2),
            x -> x.setFaults(800, 21, 2), x -> x.setFaults(800, -21, 2),
            x -> x.setFaults(800, 1, 21), x -> x.setFaults(800, 1, -21),
            x -> x.setTide(24, 200, 99), x -> x.setTide(-1, 200, 99),
            x -> x.setTide(0, 360, 99), x -> x.setTide(0, -1, 99),
            x -> x.setTide(0, 200, 101), x -> x.setTide(0, 200, -1),
            x -> x.speed(60), x -> x.strength(60), x -> x.angle(60), x -> x.from(60),
            x -> x.side(60), x -> x.turn(60), x -> x.cost(60), x -> x.east(60),
            x -> x.north(60), x -> x.best(19, 0), x -> x.bestByLog(0, 10), x -> x.bestUp(10),
            x -> x.bestDown(-1), x -> x.bestCourse(10, 0, 0), x -> x.bestCourse(0, 360, 0),
            x -> x.bestCourse(0, 0, 360), x -> x.costs(0),
        };
        for (int i = 0; i < refused.length; i++) {
            leavesAll("a few entries, refused call " + i, 4, refused[i]);
            leavesAll("an empty log, refused call " + i, 0, refused[i]);
        }
        leavesAll("the latest minute", 4, x -> x.log(59, 299, 7, 555, 111));
        leavesAll("an early minute", 4, x -> x.log(0, 299, 7, 555, 111));
        leavesAll("a full log", 60, x -> x.log(1439, 299, 7, 555, 111));
        leavesAll("a full log, and an early minute", 60, x -> x.log(0, 299, 7, 555, 111));
    }

    /** An object that was asked the refused call answers as one that was not. */
    private static void leavesAll(String what, int entries, Refused call) {
        SailLog asked = begun(entries);
        String outcome = Checks.outcome(() -> call.answer(asked));
        Checks.holds(what + " " + outcome, outcome.startsWith("throws java.lang.I"));
        Checks.holds(what + ": wind, turns and places are as before",
                ofEntries(asked).equals(ofEntries(begun(entries))));
        SailLog again = begun(entries);
        Checks.outcome(() -> call.answer(again));
        Checks.holds(what + ": the table is as before", ofTable(again).equals(
                ofTable(begun(entries))));
    }

    private static SailLog begun(int entries) {
        SailLog x = new SailLog();
        x.setFaults(1100, 3, -4);
        x.setTide(0, 45, 50);
        for (int i = 0; i < entries; i++) {
            x.log(i + 56, 100 - i, 30 * (i % 12), 150 + i, i % 2 == 0 ? 55 : 320);
        }
        return x;
    }

    /** What is asked of the last entries, of tides, faults and the latest minute. */
    private static List<Integer> ofEntries(SailLog x) {
        List<Integer> answers = new ArrayList<>();
        int entries = x.entries();
        answers.add(entries);
        addLastEntries(answers, x);
        answers.add(x.costs(SailLog.TACK));
        answers.add(x.costs(SailLog.GYBE));
        answers.add(x.vaneShown());
        if (entries < 60) {
            // The minute after the latest one is still free; faults and tides bear on it too.
            answers.add(x.log(entries == 0 ? 0 : entries + 56, 200, 10, 300, 100));
            answers.add(x.log(entries + 57, 0, 0, 0, 0));
            answers.add(x.east(entries + 1));
            answers.add(x.north(entries + 1));
            answers.add(x.from(entries));
        }
        for (int hour = 0; hour < 24; hour++) {
            answers.add(x.setTide(hour, 0, 0));
        }
        answers.add(x.setFaults(1000, 0, 0));
        // Found anew from what was told.
        addLastEntries(answers, x);
        return answers;
    }

    private static void addLastEntries(List<Integer> answers, SailLog x) {
        for (int i = Math.max(x.entries() - 5, 0); i < x.entries(); i++) {
            answers.add(x.speed(i));
            answers.add(x.strength(i));
            answers.add(x.angle(i));
            answers.add(x.from(i));
            answers.add(x.side(i));
            answers.add(x.turn(i));
            answers.add(x.cost(i));
            answers.add(x.east(i));
            answers.add(x.north(i));
        }
    }

    private static List<Integer> ofTable(SailLog x) {
        List<Integer> answers = new ArrayList<>();
        for (int row = 0; row < 19; row++) {
            for (int column = 0; column < 10; column++) {
                answers.add(x.best(row, column));
                answers.add(x.bestByLog(row, column));
            }
        }
        for (int column = 0; column < 10; column++) {
            answers.add(x.bestUp(column));
            answers.add(x.bestDown(column));
            answers.add(x.bestCourse(column, 350, 20));
        }
        return answers;
    }

    private static void none() {
        Checks.same("NONE", -1, SailLog.NONE);
        Checks.same("none up", -1, new SailLog().bestUp(0));
    }

    private static void sides() {
        Checks.same("NEITHER", 0, SailLog.NEITHER);
        Checks.same("STARBOARD", 1, SailLog.STARBOARD);
        Checks.same("PORT", 2, SailLog.PORT);
        SailLog x = Logs.still(0, 60, 300);
        for (int side = 0; side < 3; side++) {
            Checks.same("side " + side, side, x.side(side));
        }
    }

    private static void kindsOfTurns() {
        Checks.same("NO_TURN", 0, SailLog.NO_TURN);
        Checks.same("TACK", 1, SailLog.TACK);
        Checks.same("GYBE", 2, SailLog.GYBE);
        SailLog x = Logs.still(60, 300, 120);
        for (int kind = 0; kind < 3; kind++) {
            Checks.same("kind " + kind, kind, x.turn(kind));
        }
    }
}
