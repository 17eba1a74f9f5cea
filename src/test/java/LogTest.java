/** Promises 1 to 6: a new object, log, setFaults, setTide, entries, sine. */
final class LogTest {
    private LogTest() {
    }

    static void run() {
        newObject();
        logNumbersEntries();
        logRanges();
        logStates();
        fullLog();
        argumentsBeforeStates();
        refusedEntriesLeaveNothing();
        faultsAnswerTheFactorBefore();
        faultsRanges();
        faultsHoldForAllEntries();
        tideAnswersTheDriftBefore();
        tideRanges();
        sines();
    }

    private static void newObject() {
        SailLog x = new SailLog();
        Checks.same("new: entries", 0, x.entries());
        Checks.noEntry("new: speed(0)", () -> x.speed(0));
        for (int row = 0; row < 19; row++) {
            for (int column = 0; column < 10; column++) {
                Checks.same("new: best", 0, x.best(row, column));
                Checks.same("new: bestByLog", 0, x.bestByLog(row, column));
            }
        }
        Checks.same("new: bestUp", SailLog.NONE, x.bestUp(0));
        Checks.same("new: bestDown", SailLog.NONE, x.bestDown(0));
        Checks.same("new: bestCourse", SailLog.NONE, x.bestCourse(0, 0, 90));
        Checks.same("new: tacks", 0, x.costs(SailLog.TACK));
        Checks.same("new: vaneShown", -1000, x.vaneShown());
        for (int hour = 0; hour < 24; hour++) {
            Checks.same("new: drift", 0, x.setTide(hour, 0, 0));
        }
        Checks.same("new: factor", 1000, x.setFaults(1000, 0, 0));
        x.log(0, 60, 10, 100, 20);
        Checks.same("new: no fault of speed", 60, x.speed(0));
        SailLog other = new SailLog();
        Checks.same("an object of its own", 0, other.entries());
    }

    private static void logNumbersEntries() {
        SailLog x = new SailLog();
        Checks.same("log least", 0, x.log(0, 0, 0, 0, 0));
        Checks.same("entries", 1, x.entries());
        Checks.same("log most", 1, x.log(1439, 300, 359, 600, 359));
        Checks.same("entries", 2, x.entries());
        Checks.same("speed of the first", 0, x.speed(0));
        Checks.same("speed of the second", 300, x.speed(1));
    }

    private static void logRanges() {
        SailLog x = new SailLog();
        Checks.outOfRange("log minute -1", () -> x.log(-1, 0, 0, 0, 0));
        Checks.outOfRange("log minute 1440", () -> x.log(1440, 0, 0, 0, 0));
        Checks.outOfRange("log speed -1", () -> x.log(0, -1, 0, 0, 0));
        Checks.outOfRange("log speed 301", () -> x.log(0, 301, 0, 0, 0));
        Checks.outOfRange("log heading -1", () -> x.log(0, 0, -1, 0, 0));
        Checks.outOfRange("log heading 360", () -> x.log(0, 0, 360, 0, 0));
        Checks.outOfRange("log strength -1", () -> x.log(0, 0, 0, -1, 0));
        Checks.outOfRange("log strength 601", () -> x.log(0, 0, 0, 601, 0));
        Checks.outOfRange("log angle -1", () -> x.log(0, 0, 0, 0, -1));
        Checks.outOfRange("log angle 360", () -> x.log(0, 0, 0, 0, 360));
        Checks.outOfRange("log of the greatest numbers", () -> x.log(Integer.MAX_VALUE,
                Integer.MAX_VALUE, Integer.MAX_VALUE, Integer.MAX_VALUE, Integer.MAX_VALUE));
        Checks.outOfRange("log of the least numbers", () -> x.log(Integer.MIN_VALUE,
                Integer.MIN_VALUE, Integer.MIN_VALUE, Integer.MIN_VALUE, Integer.MIN_VALUE));
        Checks.same("entries after refusals", 0, x.entries());
    }

    private static void logStates() {
        SailLog x = new SailLog();
        x.log(100, 0, 0, 0, 0);
        Checks.badState("log at the same minute", () -> x.log(100, 0, 0, 0, 0));
        Checks.badState("log at an earlier minute", () -> x.log(99, 0, 0, 0, 0));
        Checks.same("log at the next minute", 1, x.log(101, 0, 0, 0, 0));
        SailLog full = new SailLog();
        for (int i = 0; i < 60; i++) {
            Checks.same("log up to 60", i, full.log(i, i, 0, 100, 0));
        }
        Checks.badState("log beyond 60", () -> full.log(60, 0, 0, 0, 0));
        Checks.same("entries of a full log", 60, full.entries());
        Checks.same("the last one of a full log", 59, full.speed(59));
        Checks.noEntry("no entry 60", () -> full.speed(60));
    }

    private static void fullLog() {
        SailLog full = new SailLog();
        for (int i = 0; i < 60; i++) {
            // Tacks at each entry, all at 30; the last one alone is slower.
            full.log(i, i == 59 ? 20 : 30, 90, 600, i % 2 == 0 ? 60 : 300);
        }
        int row = Math.min(full.angle(58), 360 - full.angle(58)) / 10;
        Checks.same("full: best", 30, full.best(row, 9));
        Checks.same("full: bestByLog", 30, full.bestByLog(row, 9));
        Checks.same("full: bestUp", row, full.bestUp(9));
        Checks.same("full: the last turn", SailLog.TACK, full.turn(59));
        Checks.same("full: cost of the last turn", 10, full.cost(59));
        // The entry 59 is the second after the turn 57, the next after 58, and a turn itself.
        Checks.same("full: tacks", 30, full.costs(SailLog.TACK));
        Checks.same("full: gybes", 0, full.costs(SailLog.GYBE));
        Checks.same("full: east", 59 * 5, full.east(59));
        Checks.same("full: north", 0, full.north(59));
        Checks.holds("full: vaneShown", full.vaneShown() >= -1 && full.vaneShown() <= 0);
        Checks.same("full: setFaults", 1000, full.setFaults(500, 0, 0));
        Checks.same("full: the last speed", 10, full.speed(59));
        Checks.badState("full: log", () -> full.log(1439, 0, 0, 0, 0));
    }

    private static void argumentsBeforeStates() {
        SailLog x = new SailLog();
        for (int i = 0; i < 60; i++) {
            x.log(i, 0, 0, 0, 0);
        }
        Checks.outOfRange("full, and an argument is wrong", () -> x.log(60, 0, 0, 0, 360));
        SailLog y = new SailLog();
        y.log(100, 0, 0, 0, 0);
        Checks.outOfRange("early, and an argument is wrong", () -> y.log(50, 301, 0, 0, 0));
    }

    private static void refusedEntriesLeaveNothing() {
        SailLog x = new SailLog();
        x.log(10, 100, 0, 140, 0);
        Checks.badState("log early", () -> x.log(5, 200, 0, 240, 0));
        Checks.outOfRange("log wrongly", () -> x.log(11, 200, 0, 240, -1));
        Checks.same("entries", 1, x.entries());
        Checks.same("speed", 100, x.speed(0));
        Checks.same("table", 100, x.best(0, 1));
        Checks.same("the latest minute is as before", 1, x.log(11, 0, 0, 0, 0));
    }

    private static void faultsAnswerTheFactorBefore() {
        SailLog x = new SailLog();
        Checks.same("factor at first", 1000, x.setFaults(500, -20, -20));
        Checks.same("factor second", 500, x.setFaults(1500, 20, 20));
        Checks.same("factor third", 1500, x.setFaults(777, 0, 0));
    }

    private static void faultsRanges() {
        SailLog x = new SailLog();
        x.log(0, 100, 350, 200, 90);
        x.setFaults(1200, 10, 10);
        int angle = x.angle(0);
        int from = x.from(0);
        Checks.outOfRange("factor 499", () -> x.setFaults(499, 0, 0));
        Checks.outOfRange("factor 1501", () -> x.setFaults(1501, 0, 0));
        Checks.outOfRange("compass -21", () -> x.setFaults(1000, -21, 0));
        Checks.outOfRange("compass 21", () -> x.setFaults(1000, 21, 0));
        Checks.outOfRange("vane -21", () -> x.setFaults(1000, 0, -21));
        Checks.outOfRange("vane 21", () -> x.setFaults(1000, 0, 21));
        Checks.same("speed after refusals", 120, x.speed(0));
        Checks.same("angle after refusals", angle, x.angle(0));
        Checks.same("from after refusals", from, x.from(0));
        Checks.same("factor after refusals", 1200, x.setFaults(1200, 0, 0));
    }

    private static void faultsHoldForAllEntries() {
        SailLog x = new SailLog();
        x.log(0, 60, 350, 100, 355);
        x.setFaults(999, 20, 5);
        x.log(1, 60, 10, 100, 355);
        for (int i = 0; i < 2; i++) {
            // 60 * 999 / 1000 is 59.94; a wind felt at 355 + 5 blows from right ahead.
            Checks.same("speed with faults", 59, x.speed(i));
            Checks.same("strength with faults", 41, x.strength(i));
            Checks.same("angle with faults", 0, x.angle(i));
        }
        Checks.same("from, over north", 10, x.from(0));
        Checks.same("from", 30, x.from(1));
        x.setFaults(1000, -20, 5);
        Checks.same("from with another fault", 330, x.from(0));
        Checks.same("from below north", 350, x.from(1));
        Checks.same("speed without fault", 60, x.speed(0));
        SailLog y = new SailLog();
        y.log(0, 0, 0, 100, 10);
        y.setFaults(1000, 0, -20);
        // The wind of a boat that lies still is felt as it is, and 10 - 20 is 350.
        Checks.same("a vane turned below the arch", SailLog.PORT, y.side(0));
    }

    private static void tideAnswersTheDriftBefore() {
        SailLog x = new SailLog();
        Checks.same("drift at first", 0, x.setTide(0, 359, 100));
        Checks.same("drift of another hour", 0, x.setTide(23, 0, 7));
        Checks.same("drift before", 100, x.setTide(0, 0, 3));
        Checks.same("drift before that", 3, x.setTide(0, 0, 0));
        Checks.same("drift of the last hour", 7, x.setTide(23, 0, 0));
    }

    private static void tideRanges() {
        SailLog x = new SailLog();
        x.log(0, 0, 0, 0, 0);
        x.log(60, 0, 0, 0, 0);
        x.setTide(0, 90, 60);
        Checks.noEntry("hour -1", () -> x.setTide(-1, 0, 0));
        Checks.noEntry("hour 24", () -> x.setTide(24, 0, 0));
        Checks.outOfRange("direction -1", () -> x.setTide(0, -1, 0));
        Checks.outOfRange("direction 360", () -> x.setTide(0, 360, 0));
        Checks.outOfRange("drift -1", () -> x.setTide(0, 0, -1));
        Checks.outOfRange("drift 101", () -> x.setTide(0, 0, 101));
        Checks.noEntry("hour before direction", () -> x.setTide(24, 360, 0));
        Checks.noEntry("hour before drift", () -> x.setTide(-1, 0, 101));
        Checks.same("east after refusals", 600, x.east(1));
        Checks.same("drift after refusals", 60, x.setTide(0, 0, 0));
    }

    private static void sines() {
        SailLog x = new SailLog();
        Checks.same("sine(0)", 0, x.sine(0));
        Checks.same("sine(1)", 17, x.sine(1));
        // 4000 * 4500 / (40500 - 4500)
        Checks.same("sine(30)", 500, x.sine(30));
        Checks.same("sine(150)", 500, x.sine(150));
        // 24300000 / 34425 is 705.9
        Checks.same("sine(45)", 705, x.sine(45));
        Checks.same("sine(90)", 1000, x.sine(90));
        Checks.same("sine(179)", 17, x.sine(179));
        Checks.same("sine(180)", 0, x.sine(180));
        // The other sign of one that was rounded down before.
        Checks.same("sine(181)", -17, x.sine(181));
        Checks.same("sine(225)", -705, x.sine(225));
        Checks.same("sine(270)", -1000, x.sine(270));
        Checks.same("sine(359)", -17, x.sine(359));
        Checks.same("sine(360)", 0, x.sine(360));
        Checks.same("sine(-90)", -1000, x.sine(-90));
        Checks.same("sine(-30)", -500, x.sine(-30));
        Checks.same("sine(3690)", 1000, x.sine(3690));
        // 2147483647 is 127 modulo 360, and -2147483648 is 232.
        Checks.same("sine of the greatest", x.sine(127), x.sine(Integer.MAX_VALUE));
        Checks.same("sine of the least", x.sine(232), x.sine(Integer.MIN_VALUE));
        SailLog y = new SailLog();
        SailLog z = new SailLog();
        for (int angle = 0; angle < 180; angle++) {
            int arch = angle * (180 - angle);
            int due = 4000 * arch / (40500 - arch);
            Checks.same("sine(" + angle + ")", due, x.sine(angle));
            Checks.same("sine(" + angle + " + 180)", -due, y.sine(angle + 180));
            Checks.same("sine(" + angle + " - 360)", due, z.sine(angle - 360));
        }
    }
}
