import java.util.ArrayList;
import java.util.List;

/** The sentences of "What it is" and "Not promised". */
final class WholeTest {
    private static final String WHAT = "What it is";
    private static final String NOT = "Not promised";

    private WholeTest() {
    }

    static void run() {
        // What each of these parts asks for is said again, and in full, in the promises.
        Document.asksNothing(WHAT, "A log of sailing: speeds, headings and wind as it is felt on "
                + "board, with faults of instruments; the wind as it is, by vectors in whole "
                + "numbers; a table of best speeds that is learned from the log; tacks and gybes "
                + "with what they cost; the best angles up and down the wind and the best course "
                + "to a mark; places by reckoning with the tide of each hour; and a fault of the "
                + "vane that shows on both tacks.");
        Document.holds(WHAT, "An object is used for at most 512 calls after it has been made;",
                WholeTest::holdsFor512Calls);
        Document.asksNothing(WHAT, "what later calls answer is free.");
        Document.asksNothing(NOT, "How the state is held inside the object is free, as are the "
                + "speed of each call, the text of toString and the behaviour of equals and "
                + "hashCode.");
        Document.asksNothing(NOT, "Use of one object from several threads at once is not promised "
                + "to be safe.");
        Document.holds(NOT, "Nothing is promised beyond the answers and state changes described "
                + "above,", WholeTest::noOtherChanges);
        Document.asksNothing(NOT, "and nothing about an object after its 512th call.");
    }

    private static void holdsFor512Calls() {
        SailLog x = new SailLog();
        for (int call = 0; call < 60; call++) {
            x.log(call, 60, 90, 100, 0);
        }
        for (int call = 60; call < 510; call++) {
            Checks.same("call " + call, 10 * (call % 60), x.east(call % 60));
        }
        Checks.same("the call before the last", 1000, x.setFaults(500, 0, 0));
        Checks.same("the last call", 295, x.east(59));
        SailLog refused = new SailLog();
        for (int call = 0; call < 510; call++) {
            Checks.noEntry("refused call " + call, () -> refused.speed(0));
        }
        Checks.same("the call before the last", 0, refused.log(0, 70, 0, 0, 0));
        Checks.same("the last call", 70, refused.speed(0));
    }

    private static void noOtherChanges() {
        SailLog x = begun();
        List<Integer> first = answers(x);
        Checks.holds("asking changes nothing", answers(x).equals(first));
        SailLog other = new SailLog();
        Checks.same("another object has no entries", 0, other.entries());
        Checks.same("nor faults", 1000, other.setFaults(700, -3, 9));
        Checks.same("nor a tide", 0, other.setTide(0, 200, 70));
        other.log(100, 200, 300, 400, 20);
        other.log(200, 190, 20, 400, 340);
        Checks.holds("what another object is told changes nothing", answers(x).equals(first));
    }

    private static SailLog begun() {
        SailLog x = new SailLog();
        x.setFaults(1100, 3, -4);
        x.setTide(0, 45, 50);
        for (int i = 0; i < 5; i++) {
            x.log(3 * i, 100 - 7 * i, 40 * i, 150 + i, i % 2 == 0 ? 55 : 320);
        }
        return x;
    }

    /** All answers that change nothing, but for those of most fields: some 100 calls. */
    private static List<Integer> answers(SailLog x) {
        List<Integer> answers = new ArrayList<>();
        answers.add(x.entries());
        for (int i = 0; i < 5; i++) {
            answers.addAll(List.of(x.speed(i), x.strength(i), x.angle(i), x.from(i), x.side(i),
                    x.turn(i), x.cost(i), x.east(i), x.north(i)));
        }
        for (int column = 2; column < 5; column++) {
            for (int row = 5; row < 10; row++) {
                answers.addAll(List.of(x.best(row, column), x.bestByLog(row, column)));
            }
            answers.addAll(List.of(x.bestUp(column), x.bestDown(column),
                    x.bestCourse(column, 10, 20)));
        }
        answers.addAll(List.of(x.costs(SailLog.TACK), x.costs(SailLog.GYBE), x.vaneShown(),
                x.sine(77)));
        return answers;
    }
}
