/** Promises 17 to 19: turn, cost, costs. */
final class TurnsTest {
    private TurnsTest() {
    }

    static void run() {
        kinds();
        noTurns();
        costOfATurn();
        costAtTheEnd();
        costWithFaults();
        costsOfAKind();
        costRanges();
    }

    private static void kinds() {
        Checks.same("tack to port", SailLog.TACK, Logs.still(60, 300).turn(1));
        Checks.same("tack to starboard", SailLog.TACK, Logs.still(300, 60).turn(1));
        Checks.same("gybe to port", SailLog.GYBE, Logs.still(120, 240).turn(1));
        Checks.same("gybe to starboard", SailLog.GYBE, Logs.still(240, 120).turn(1));
        Checks.same("88 and 90 together", SailLog.TACK, Logs.still(88, 270).turn(1));
        Checks.same("90 and 88 together", SailLog.TACK, Logs.still(90, 272).turn(1));
        Checks.same("90 and 90 together", SailLog.GYBE, Logs.still(90, 270).turn(1));
        Checks.same("60 and 120 together", SailLog.GYBE, Logs.still(60, 240).turn(1));
        Checks.same("92 and 90 together", SailLog.GYBE, Logs.still(92, 270).turn(1));
    }

    private static void noTurns() {
        Checks.same("the entry 0", SailLog.NO_TURN, Logs.still(60, 300).turn(0));
        Checks.same("starboard as before", SailLog.NO_TURN, Logs.still(60, 120).turn(1));
        Checks.same("port as before", SailLog.NO_TURN, Logs.still(240, 300).turn(1));
        SailLog luffed = Logs.still(60, 0, 300);
        Checks.same("to neither side", SailLog.NO_TURN, luffed.turn(1));
        Checks.same("from neither side", SailLog.NO_TURN, luffed.turn(2));
        Checks.same("cost of the entry 0", 0, luffed.cost(0));
        Checks.same("cost of no turn", 0, luffed.cost(2));
        Checks.same("costs of no turns", 0, luffed.costs(SailLog.TACK));
        SailLog slower = new SailLog();
        slower.log(0, 100, 0, 600, 90);
        slower.log(1, 50, 0, 600, 90);
        Checks.same("slower without a turn", 0, slower.cost(1));
    }

    /** A tack at the entry 1, and entries after it on the same side. */
    private static SailLog tacked() {
        SailLog x = new SailLog();
        x.log(10, 100, 0, 600, 40);
        x.log(12, 60, 0, 600, 320);
        x.log(15, 80, 0, 600, 320);
        x.log(20, 110, 0, 600, 320);
        x.log(27, 10, 0, 600, 320);
        return x;
    }

    private static void costOfATurn() {
        SailLog x = tacked();
        Checks.same("the tack", SailLog.TACK, x.turn(1));
        // 40 for 2 minutes, 20 for 3, none for 5; the entry 4 does not count.
        Checks.same("cost", 140, x.cost(1));
        Checks.same("cost of the entry after it", 0, x.cost(2));
        Checks.same("tacks", 140, x.costs(SailLog.TACK));
        Checks.same("gybes", 0, x.costs(SailLog.GYBE));
        SailLog faster = new SailLog();
        faster.log(0, 60, 0, 600, 40);
        faster.log(5, 90, 0, 600, 320);
        faster.log(9, 50, 0, 600, 320);
        faster.log(16, 59, 0, 600, 320);
        // What is won is not taken away: 10 for 4 minutes, 1 for 7.
        Checks.same("won and lost", 47, faster.cost(1));
    }

    private static void costAtTheEnd() {
        SailLog x = new SailLog();
        x.log(10, 100, 0, 600, 40);
        x.log(12, 60, 0, 600, 320);
        Checks.same("itself", 80, x.cost(1));
        x.log(15, 80, 0, 600, 320);
        Checks.same("itself and the next", 140, x.cost(1));
        x.log(20, 90, 0, 600, 320);
        Checks.same("itself and the next two", 190, x.cost(1));
        x.log(30, 0, 0, 600, 320);
        Checks.same("no more than two", 190, x.cost(1));
        SailLog full = new SailLog();
        for (int i = 0; i < 60; i++) {
            full.log(i, i == 59 ? 50 : 60, 0, 600, i == 59 ? 320 : 40);
        }
        Checks.same("the last one of a full log", 10, full.cost(59));
    }

    private static void costWithFaults() {
        SailLog x = tacked();
        x.setFaults(500, 0, 0);
        // 50, 30, 40, 55: 20 for 2 minutes, 10 for 3.
        Checks.same("cost with half the speeds", 70, x.cost(1));
        SailLog y = Logs.still(2, 300);
        y.setFaults(1000, 0, -20);
        Checks.same("the vane set back: both on port", SailLog.NO_TURN, y.turn(1));
    }

    private static void costsOfAKind() {
        SailLog x = new SailLog();
        x.log(0, 100, 0, 600, 40);
        x.log(1, 90, 0, 600, 320);
        x.log(3, 80, 0, 600, 140);
        x.log(6, 70, 0, 600, 220);
        x.log(10, 60, 0, 600, 40);
        int[] kinds = {SailLog.NO_TURN, SailLog.TACK, SailLog.GYBE, SailLog.GYBE, SailLog.GYBE};
        // From 100: 10, 20 * 2, 30 * 3. From 90: 10 * 2, 20 * 3, 30 * 4.
        // From 80: 10 * 3, 20 * 4. From 70: 10 * 4.
        int[] costs = {0, 140, 200, 110, 40};
        for (int i = 0; i < kinds.length; i++) {
            Checks.same("kind of " + i, kinds[i], x.turn(i));
            Checks.same("cost of " + i, costs[i], x.cost(i));
        }
        Checks.same("tacks", 140, x.costs(SailLog.TACK));
        Checks.same("gybes", 350, x.costs(SailLog.GYBE));
    }

    private static void costRanges() {
        SailLog x = tacked();
        Checks.outOfRange("costs(NO_TURN)", () -> x.costs(SailLog.NO_TURN));
        Checks.outOfRange("costs(3)", () -> x.costs(3));
        Checks.outOfRange("costs(-1)", () -> x.costs(-1));
        Checks.outOfRange("costs of the greatest", () -> x.costs(Integer.MAX_VALUE));
        Checks.outOfRange("costs on an empty log", () -> new SailLog().costs(0));
    }
}
