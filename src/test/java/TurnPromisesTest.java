/** The sentences of promises 17 to 19: turn, cost, costs. */
final class TurnPromisesTest {
    private static final String TURN = "Promise 17: turn";
    private static final String COST = "Promise 18: cost";
    private static final String COSTS = "Promise 19: costs";
    private static final String ENTRY = "`entry`: an entry";
    private static final String THROWS =
            "Throws `IndexOutOfBoundsException` if there is no such entry";

    private static final int[] TO_STARBOARD = {30, 0, 600, 60};
    private static final int[] TO_PORT = {20, 0, 600, 300};

    private TurnPromisesTest() {
    }

    static void run() {
        Document.holds(TURN, "Returns what kind of turn an entry is.",
                TurnPromisesTest::kindOfTurn);
        Document.holds(TURN, ENTRY, TurnPromisesTest::turnOfEntries);
        Document.holds(TURN, "Returns NO_TURN, TACK or GYBE;", TurnPromisesTest::rangeOfTurns);
        Document.holds(TURN, "NO_TURN for the entry 0.", TurnPromisesTest::turnOfEntry0);
        Document.holds(TURN, THROWS, () -> Logs.refusesOtherEntries(SailLog::turn));
        Document.holds(COST, "Returns what a turn costs.", TurnPromisesTest::costOfATurn);
        Document.holds(COST, ENTRY, TurnPromisesTest::costOfEntries);
        Document.holds(COST, "Returns tenths of knots times minutes;",
                TurnPromisesTest::tenthsTimesMinutes);
        Document.holds(COST, "0 if it is no turn.", TurnPromisesTest::costOfNoTurn);
        Document.holds(COST, THROWS, () -> Logs.refusesOtherEntries(SailLog::cost));
        Document.holds(COSTS, "Returns the cost of all turns of a kind together.",
                TurnPromisesTest::allTurnsOfAKind);
        Document.holds(COSTS, "`kind`: TACK or GYBE", TurnPromisesTest::kindOfCosts);
        Document.holds(COSTS, "Returns the cost.", TurnPromisesTest::sumOfCosts);
        Document.holds(COSTS, "Throws `IllegalArgumentException` if kind is neither",
                TurnPromisesTest::neitherKind);
    }

    private static void kindOfTurn() {
        Checks.same("a tack to port", SailLog.TACK, Logs.still(60, 300).turn(1));
        Checks.same("a tack to starboard", SailLog.TACK, Logs.still(300, 60).turn(1));
        Checks.same("a gybe to port", SailLog.GYBE, Logs.still(120, 240).turn(1));
        Checks.same("a gybe to starboard", SailLog.GYBE, Logs.still(240, 120).turn(1));
        Checks.same("none", SailLog.NO_TURN, Logs.still(60, 120).turn(1));
        SailLog x = Logs.still(60, 240);
        Checks.same("180 together", SailLog.GYBE, x.turn(1));
        x.setFaults(1000, 0, 15);
        Checks.same("75 and 105 together", SailLog.GYBE, x.turn(1));
        SailLog y = Logs.still(2, 300);
        Checks.same("without fault", SailLog.TACK, y.turn(1));
        y.setFaults(1000, 0, -2);
        Checks.same("0 and 298", SailLog.NO_TURN, y.turn(1));
        y.setFaults(1000, 0, -4);
        Checks.same("358 and 296", SailLog.NO_TURN, y.turn(1));
    }

    private static void turnOfEntries() {
        SailLog x = Logs.full(TO_STARBOARD, TO_STARBOARD, TO_PORT);
        for (int entry = 0; entry < 59; entry++) {
            Checks.same("entry " + entry, SailLog.NO_TURN, x.turn(entry));
        }
        Checks.same("the last one", SailLog.TACK, x.turn(59));
        SailLog y = Logs.full(TO_PORT, TO_STARBOARD, TO_STARBOARD);
        Checks.same("the entry 1", SailLog.TACK, y.turn(1));
        Checks.same("the entry 2", SailLog.NO_TURN, y.turn(2));
    }

    private static void rangeOfTurns() {
        SailLog x = Logs.still(60, 300, 120, 120, 0, 240, 60, 241);
        int[] kinds = {SailLog.NO_TURN, SailLog.TACK, SailLog.GYBE, SailLog.NO_TURN,
            SailLog.NO_TURN, SailLog.NO_TURN, SailLog.GYBE, SailLog.TACK};
        for (int entry = 0; entry < kinds.length; entry++) {
            Checks.same("entry " + entry, kinds[entry], x.turn(entry));
        }
    }

    private static void turnOfEntry0() {
        Checks.same("to starboard", SailLog.NO_TURN, Logs.still(60).turn(0));
        Checks.same("to port", SailLog.NO_TURN, Logs.still(300).turn(0));
        // Neither the next entry nor the last one is before it.
        Checks.same("with one after it", SailLog.NO_TURN, Logs.still(60, 300).turn(0));
        SailLog full = Logs.full(TO_STARBOARD, TO_STARBOARD, TO_PORT);
        Checks.same("of a full log", SailLog.NO_TURN, full.turn(0));
    }

    private static void costOfATurn() {
        SailLog x = new SailLog();
        x.log(0, 100, 0, 600, 60);
        x.log(2, 90, 0, 600, 300);
        Checks.same("10 for 2 minutes", 20, x.cost(1));
        x.log(5, 101, 0, 600, 300);
        Checks.same("none for a faster one", 20, x.cost(1));
        x.log(9, 95, 0, 600, 300);
        Checks.same("5 for 4 minutes", 40, x.cost(1));
        x.log(10, 0, 0, 600, 300);
        Checks.same("no third one", 40, x.cost(1));
        SailLog gybe = new SailLog();
        gybe.log(0, 100, 0, 600, 120);
        gybe.log(1, 97, 0, 600, 240);
        Checks.same("a gybe", SailLog.GYBE, gybe.turn(1));
        Checks.same("3 for a minute", 3, gybe.cost(1));
    }

    private static void costOfEntries() {
        SailLog x = Logs.full(TO_STARBOARD, TO_STARBOARD, TO_PORT);
        Checks.same("the first one", 0, x.cost(0));
        Checks.same("the one before the last", 0, x.cost(58));
        Checks.same("the last one", 10, x.cost(59));
        SailLog y = Logs.full(TO_STARBOARD, TO_PORT, TO_PORT);
        Checks.same("the entry 1", 30, y.cost(1));
        Checks.same("the entry 2", 0, y.cost(2));
    }

    private static void tenthsTimesMinutes() {
        SailLog least = Logs.one(1, 0, 600, 60);
        least.log(1, 0, 0, 600, 300);
        Checks.same("the least", 1, least.cost(1));
        // All that is lost in three entries: 450 until the last minute.
        SailLog most = Logs.one(300, 0, 600, 60);
        most.log(400, 0, 0, 600, 300);
        most.log(900, 0, 0, 600, 300);
        most.log(1439, 0, 0, 600, 300);
        most.setFaults(1500, 0, 0);
        Checks.same("the most", 647550, most.cost(1));
    }

    private static void costOfNoTurn() {
        SailLog x = new SailLog();
        x.log(0, 100, 0, 600, 60);
        x.log(1, 50, 0, 600, 60);
        x.log(2, 40, 0, 600, 0);
        x.log(3, 30, 0, 600, 300);
        x.log(4, 20, 0, 600, 300);
        for (int entry = 0; entry < 5; entry++) {
            Checks.same("entry " + entry, 0, x.cost(entry));
        }
        SailLog full = Logs.full(TO_STARBOARD, TO_STARBOARD, TO_PORT);
        Checks.same("the entry 0 of a full log", 0, full.cost(0));
    }

    private static void allTurnsOfAKind() {
        SailLog x = new SailLog();
        Checks.same("no tacks in an empty log", 0, x.costs(SailLog.TACK));
        Checks.same("no gybes in an empty log", 0, x.costs(SailLog.GYBE));
        x.log(0, 100, 0, 600, 60);
        Checks.same("no tacks of one entry", 0, x.costs(SailLog.TACK));
        x.log(1, 99, 0, 600, 300);
        x.log(2, 97, 0, 600, 150);
        x.log(3, 93, 0, 600, 210);
        x.log(4, 85, 0, 600, 0);
        int[] kinds = {SailLog.NO_TURN, SailLog.TACK, SailLog.GYBE, SailLog.GYBE,
            SailLog.NO_TURN};
        // From 100: 1, 3 and 7. From 99: 2, 6 and 14. From 97: 4 and 12.
        int[] costs = {0, 11, 22, 16, 0};
        for (int entry = 0; entry < 5; entry++) {
            Checks.same("the kind of " + entry, kinds[entry], x.turn(entry));
            Checks.same("the cost of " + entry, costs[entry], x.cost(entry));
        }
        Checks.same("tacks", 11, x.costs(SailLog.TACK));
        Checks.same("gybes, one after the other", 38, x.costs(SailLog.GYBE));
        SailLog full = Logs.full(TO_STARBOARD, TO_STARBOARD, TO_PORT);
        Checks.same("the last entry's counts", 10, full.costs(SailLog.TACK));
    }

    private static void kindOfCosts() {
        SailLog x = Logs.one(30, 0, 600, 60);
        x.log(1, 20, 0, 600, 300);
        x.log(2, 15, 0, 600, 210);
        x.log(3, 13, 0, 600, 150);
        // From 30: 10, 15 and 17. From 15: 2.
        Checks.same("TACK", 42, x.costs(SailLog.TACK));
        Checks.same("GYBE", 2, x.costs(SailLog.GYBE));
        Checks.outOfRange("NO_TURN", () -> x.costs(SailLog.NO_TURN));
        Checks.outOfRange("3", () -> x.costs(3));
    }

    private static void sumOfCosts() {
        SailLog x = new SailLog();
        int due = 0;
        for (int i = 0; i < 60; i++) {
            x.log(24 * i, i % 2 == 0 ? 300 : 0, 0, 600, i % 2 == 0 ? 60 : 300);
        }
        for (int i = 1; i < 60; i += 2) {
            Checks.same("a tack", SailLog.TACK, x.turn(i));
            // Itself and the second one after it, where that is there.
            Checks.same("cost of " + i, (i == 59 ? 1 : 2) * 300 * 24, x.cost(i));
            due += x.cost(i);
        }
        Checks.same("of all", due, x.costs(SailLog.TACK));
        Checks.same("30 and 29 times", 59 * 7200, due);
    }

    private static void neitherKind() {
        SailLog x = Logs.still(60, 300);
        int[] kinds = {Integer.MIN_VALUE, -2, -1, 0, 3, 4, 256 + 1, Integer.MAX_VALUE};
        for (int kind : kinds) {
            Checks.outOfRange("kind " + kind, () -> x.costs(kind));
            Checks.outOfRange("kind " + kind + " of an empty log",
                    () -> new SailLog().costs(kind));
        }
    }
}
