/** The sentences of promises 1 to 6: a new object, log, setFaults, setTide, entries, sine. */
final class LogPromisesTest {
    private static final String NEW = "Promise 1: A new object";
    private static final String LOG = "Promise 2: log";
    private static final String FAULTS = "Promise 3: setFaults";
    private static final String TIDE = "Promise 4: setTide";
    private static final String ENTRIES = "Promise 5: entries";
    private static final String SINE = "Promise 6: sine";

    private LogPromisesTest() {
    }

    static void run() {
        Document.holds(NEW, "An empty log,", LogPromisesTest::emptyLog);
        Document.holds(NEW, "no faults,", LogPromisesTest::noFaults);
        Document.holds(NEW, "no tide.", LogPromisesTest::noTide);
        promiseOfLog();
        promisesOfSettings();
        Document.holds(ENTRIES, "Returns how many entries there are.", LogPromisesTest::howMany);
        Document.holds(SINE, "Returns the sine of an angle.", LogPromisesTest::sineOfAnAngle);
        Document.holds(SINE, "`angle`: any number; it is taken modulo 360",
                LogPromisesTest::anyNumber);
        Document.holds(SINE, "Returns -1000 to 1000.", LogPromisesTest::rangeOfSines);
    }

    private static void promiseOfLog() {
        Document.holds(LOG, "Adds an entry.", LogPromisesTest::addsAnEntry);
        Document.holds(LOG, "`minute`: 0 to 1439", LogPromisesTest::minuteOfLog);
        Document.holds(LOG, "`speed`: 0 to 300", LogPromisesTest::speedOfLog);
        Document.holds(LOG, "`heading`: 0 to 359", LogPromisesTest::headingOfLog);
        Document.holds(LOG, "`strength`: 0 to 600", LogPromisesTest::strengthOfLog);
        Document.holds(LOG, "`angle`: 0 to 359", LogPromisesTest::angleOfLog);
        Document.holds(LOG, "Returns its number.", LogPromisesTest::itsNumber);
        Document.holds(LOG, "Throws `IllegalArgumentException` if minute, speed, heading, strength "
                + "or angle is out of range", LogPromisesTest::logOutOfRange);
        Document.holds(LOG, "Throws `IllegalStateException` if there are 60,",
                LogPromisesTest::logIsFull);
        Document.holds(LOG, "or minute is not later than that of the latest one",
                LogPromisesTest::logTooEarly);
    }

    private static void promisesOfSettings() {
        Document.holds(FAULTS, "Sets the faults of the instruments; all entries are as they are "
                + "with them.", LogPromisesTest::allEntriesWithFaults);
        Document.holds(FAULTS, "`factor`: 500 to 1500", LogPromisesTest::factorOfFaults);
        Document.holds(FAULTS, "`compass`: -20 to 20", LogPromisesTest::compassOfFaults);
        Document.holds(FAULTS, "`vane`: -20 to 20", LogPromisesTest::vaneOfFaults);
        Document.holds(FAULTS, "Returns the factor before.", LogPromisesTest::factorBefore);
        Document.holds(FAULTS, "Throws `IllegalArgumentException` if factor, compass or vane is "
                + "out of range", LogPromisesTest::faultsOutOfRange);
        Document.holds(TIDE, "Sets the tide of an hour.", LogPromisesTest::tideOfAnHour);
        Document.holds(TIDE, "`hour`: 0 to 23", LogPromisesTest::hourOfTide);
        Document.holds(TIDE, "`direction`: 0 to 359: where it goes",
                LogPromisesTest::directionOfTide);
        Document.holds(TIDE, "`drift`: 0 to 100: tenths of knots", LogPromisesTest::driftOfTide);
        Document.holds(TIDE, "Returns the drift before;", LogPromisesTest::driftBefore);
        Document.holds(TIDE, "0 at first.", LogPromisesTest::driftAtFirst);
        Document.holds(TIDE, "Throws `IndexOutOfBoundsException` if there is no such hour",
                LogPromisesTest::noSuchHour);
        Document.holds(TIDE, "Throws `IllegalArgumentException` if direction or drift is out of "
                + "range", LogPromisesTest::tideOutOfRange);
    }

    // ---- a new object

    private static void emptyLog() {
        SailLog x = new SailLog();
        Checks.same("entries", 0, x.entries());
        Checks.noEntry("the entry 0", () -> x.speed(0));
        Checks.same("no field has a speed", Logs.NO_FIELD, Logs.fieldOf(x, SailLog::best));
        Checks.same("tacks", 0, x.costs(SailLog.TACK));
        Checks.same("gybes", 0, x.costs(SailLog.GYBE));
        Checks.same("vaneShown", -1000, x.vaneShown());
        Checks.same("the first number", 0, x.log(0, 0, 0, 0, 0));
        Checks.same("another new one", 0, new SailLog().entries());
    }

    private static void noFaults() {
        SailLog other = new SailLog();
        other.setFaults(1500, 20, 20);
        SailLog x = Logs.one(300, 100, 300, 0);
        Checks.same("the speed as told", 300, x.speed(0));
        Checks.same("the heading and the angle as told", 100, x.from(0));
        Checks.same("the angle as told", 0, x.angle(0));
        Checks.same("an angle of 60 as told", 60, Logs.still(60).angle(0));
        Checks.same("an angle of 61 as told", 61, Logs.still(61).angle(0));
        Checks.same("the factor", 1000, x.setFaults(1000, 0, 0));
        Checks.same("of a new one", 1000, new SailLog().setFaults(500, 0, 0));
    }

    private static void noTide() {
        SailLog other = new SailLog();
        other.setTide(0, 90, 100);
        SailLog x = new SailLog();
        for (int hour = 0; hour < 24; hour++) {
            x.log(60 * hour, 0, 0, 0, 0);
            Checks.same("east until the hour " + hour, 0, x.east(hour));
            Checks.same("north until the hour " + hour, 0, x.north(hour));
        }
        x.log(1439, 0, 0, 0, 0);
        Checks.same("east until the last minute", 0, x.east(24));
        for (int hour = 0; hour < 24; hour++) {
            Checks.same("the drift of the hour " + hour, 0, x.setTide(hour, 0, 0));
        }
    }

    // ---- log

    private static void addsAnEntry() {
        SailLog x = new SailLog();
        x.log(5, 60, 90, 100, 0);
        Checks.same("one", 1, x.entries());
        Checks.same("its speed", 60, x.speed(0));
        x.log(105, 40, 0, 600, 90);
        Checks.same("two", 2, x.entries());
        Checks.same("its speed", 40, x.speed(1));
        Checks.same("the first one is as it was", 60, x.speed(0));
        Checks.same("its minute, told by the place", 1000, x.east(1));
        // Across is 600000, ahead -40000: 601331.
        Checks.same("its wind", 601, x.strength(1));
    }

    private static void minuteOfLog() {
        Checks.same("0", 0, new SailLog().log(0, 0, 0, 0, 0));
        Checks.same("1439", 0, new SailLog().log(1439, 0, 0, 0, 0));
        Checks.outOfRange("-1", () -> new SailLog().log(-1, 0, 0, 0, 0));
        Checks.outOfRange("1440", () -> new SailLog().log(1440, 0, 0, 0, 0));
    }

    private static void speedOfLog() {
        Checks.same("0", 0, Logs.one(0, 0, 0, 0).speed(0));
        Checks.same("300", 300, Logs.one(300, 0, 0, 0).speed(0));
        Checks.outOfRange("-1", () -> new SailLog().log(0, -1, 0, 0, 0));
        Checks.outOfRange("301", () -> new SailLog().log(0, 301, 0, 0, 0));
    }

    private static void headingOfLog() {
        Checks.same("0", 0, Logs.one(0, 0, 100, 0).from(0));
        Checks.same("359", 359, Logs.one(0, 359, 100, 0).from(0));
        Checks.outOfRange("-1", () -> new SailLog().log(0, 0, -1, 0, 0));
        Checks.outOfRange("360", () -> new SailLog().log(0, 0, 360, 0, 0));
    }

    private static void strengthOfLog() {
        Checks.same("0", 0, Logs.one(0, 0, 0, 0).strength(0));
        Checks.same("600", 600, Logs.one(0, 0, 600, 0).strength(0));
        Checks.outOfRange("-1", () -> new SailLog().log(0, 0, 0, -1, 0));
        Checks.outOfRange("601", () -> new SailLog().log(0, 0, 0, 601, 0));
    }

    private static void angleOfLog() {
        Checks.same("0", 0, Logs.still(0).angle(0));
        Checks.same("358", 358, Logs.still(358).angle(0));
        Checks.same("359, which is nearest to 0", 0, Logs.still(359).angle(0));
        Checks.outOfRange("-1", () -> new SailLog().log(0, 0, 0, 0, -1));
        Checks.outOfRange("360", () -> new SailLog().log(0, 0, 0, 0, 360));
    }

    private static void itsNumber() {
        SailLog x = new SailLog();
        Checks.same("the first", 0, x.log(0, 0, 0, 0, 0));
        Checks.outOfRange("a refused one", () -> x.log(5, 301, 0, 0, 0));
        Checks.badState("another refused one", () -> x.log(0, 0, 0, 0, 0));
        Checks.same("no number is lost", 1, x.log(5, 0, 0, 0, 0));
        for (int number = 2; number < 60; number++) {
            Checks.same("up to the last", number, x.log(4 + number, 0, 0, 0, 0));
        }
    }

    private static void logOutOfRange() {
        int[] most = {1439, 300, 359, 600, 359};
        int[] farOut = {Integer.MIN_VALUE, -1000, -1, 1, 1000, Integer.MAX_VALUE};
        SailLog x = new SailLog();
        for (int argument = 0; argument < 5; argument++) {
            for (int by : farOut) {
                int[] told = most.clone();
                told[argument] = by < 0 ? by : Math.max(by, most[argument] + by);
                Checks.outOfRange("argument " + argument + ", " + told[argument],
                        () -> x.log(told[0], told[1], told[2], told[3], told[4]));
            }
        }
        Checks.same("none was added", 0, x.entries());
        Checks.same("the most of all", 0, x.log(1439, 300, 359, 600, 359));
    }

    private static void logIsFull() {
        SailLog x = new SailLog();
        for (int i = 0; i < 59; i++) {
            x.log(i, 0, 0, 0, 0);
        }
        Checks.same("there are 59", 59, x.log(59, 0, 0, 0, 0));
        Checks.badState("there are 60", () -> x.log(60, 0, 0, 0, 0));
        Checks.badState("the last minute", () -> x.log(1439, 300, 359, 600, 359));
        Checks.badState("again", () -> x.log(60, 0, 0, 0, 0));
        Checks.same("there are still 60", 60, x.entries());
    }

    private static void logTooEarly() {
        SailLog x = new SailLog();
        x.log(700, 0, 0, 0, 0);
        Checks.badState("699", () -> x.log(699, 0, 0, 0, 0));
        Checks.badState("700", () -> x.log(700, 0, 0, 0, 0));
        Checks.badState("0", () -> x.log(0, 0, 0, 0, 0));
        Checks.same("701", 1, x.log(701, 0, 0, 0, 0));
        // The latest one, not the first.
        Checks.badState("701 again", () -> x.log(701, 0, 0, 0, 0));
        Checks.same("1439", 2, x.log(1439, 0, 0, 0, 0));
        Checks.badState("1439 again", () -> x.log(1439, 0, 0, 0, 0));
    }

    // ---- setFaults

    private static void allEntriesWithFaults() {
        SailLog x = Logs.full(Logs.told(100, 10, 200, 0), Logs.told(100, 20, 200, 0),
                Logs.told(100, 30, 200, 0));
        x.setFaults(1200, 20, 0);
        Checks.same("the speed of the first", 120, x.speed(0));
        Checks.same("the speed of the last", 120, x.speed(59));
        Checks.same("the wind of the first", 80, x.strength(0));
        Checks.same("the wind of the last", 80, x.strength(59));
        Checks.same("where the first one's is from", 30, x.from(0));
        Checks.same("where the last one's is from", 50, x.from(59));
        Checks.same("the table", 120, x.best(0, 2));
        x.setFaults(500, -20, 0);
        Checks.same("set from what was told, not from before", 50, x.speed(0));
        Checks.same("the wind then", 150, x.strength(59));
        Checks.same("where it is from then", 350, x.from(0));
        Checks.same("the old field is empty", 0, x.best(0, 2));
        Checks.same("the new field", 50, x.best(0, 3));
        SailLog later = new SailLog();
        later.setFaults(1500, 20, 20);
        later.log(0, 100, 350, 0, 0);
        Checks.same("an entry that comes later", 150, later.speed(0));
        // A boat's own wind comes from astern: 370 and 180.
        Checks.same("its heading", 190, later.from(0));
    }

    private static void factorOfFaults() {
        SailLog x = Logs.one(100, 0, 0, 0);
        x.setFaults(500, 0, 0);
        Checks.same("500", 50, x.speed(0));
        x.setFaults(1500, 0, 0);
        Checks.same("1500", 150, x.speed(0));
        Checks.outOfRange("499", () -> x.setFaults(499, 0, 0));
        Checks.outOfRange("1501", () -> x.setFaults(1501, 0, 0));
    }

    private static void compassOfFaults() {
        SailLog x = Logs.one(0, 100, 100, 0);
        x.setFaults(1000, -20, 0);
        Checks.same("-20", 80, x.from(0));
        x.setFaults(1000, 20, 0);
        Checks.same("20", 120, x.from(0));
        Checks.outOfRange("-21", () -> x.setFaults(1000, -21, 0));
        Checks.outOfRange("21", () -> x.setFaults(1000, 21, 0));
    }

    private static void vaneOfFaults() {
        SailLog x = Logs.still(40);
        x.setFaults(1000, 0, -20);
        Checks.same("-20", 20, x.angle(0));
        x.setFaults(1000, 0, 20);
        Checks.same("20", 60, x.angle(0));
        Checks.outOfRange("-21", () -> x.setFaults(1000, 0, -21));
        Checks.outOfRange("21", () -> x.setFaults(1000, 0, 21));
    }

    private static void factorBefore() {
        SailLog x = new SailLog();
        Checks.same("at first", 1000, x.setFaults(500, 1, 2));
        Checks.same("then", 500, x.setFaults(1500, 3, 4));
        Checks.outOfRange("a refused one", () -> x.setFaults(1499, 21, 0));
        Checks.same("that of the refused one is not kept", 1500, x.setFaults(1500, 0, 0));
        Checks.same("the same again", 1500, x.setFaults(1000, 0, 0));
    }

    private static void faultsOutOfRange() {
        SailLog x = new SailLog();
        int[] farOut = {Integer.MIN_VALUE, -1000, -21, 21, 499, 1501, Integer.MAX_VALUE};
        for (int fault : farOut) {
            Checks.outOfRange("factor " + fault, () -> x.setFaults(fault, 0, 0));
            Checks.outOfRange("compass " + fault, () -> x.setFaults(1000, fault, 0));
            Checks.outOfRange("vane " + fault, () -> x.setFaults(1000, 0, fault));
        }
        Checks.outOfRange("factor 0", () -> x.setFaults(0, 0, 0));
        Checks.same("the most of all", 1000, x.setFaults(1500, 20, 20));
        Checks.same("the least of all", 1500, x.setFaults(500, -20, -20));
    }

    // ---- setTide

    /** A boat that lies still, an entry at each full hour and one at the last minute. */
    private static SailLog allDay() {
        SailLog x = new SailLog();
        for (int hour = 0; hour < 24; hour++) {
            x.log(60 * hour, 0, 0, 0, 0);
        }
        x.log(1439, 0, 0, 0, 0);
        return x;
    }

    private static void tideOfAnHour() {
        SailLog x = allDay();
        x.setTide(7, 90, 60);
        Checks.same("until the hour 7", 0, x.east(7));
        Checks.same("in the hour 7", 600, x.east(8));
        Checks.same("in other hours", 600, x.east(24));
        x.setTide(7, 180, 20);
        Checks.same("set anew: not east", 0, x.east(8));
        Checks.same("set anew: south", -200, x.north(8));
        x.setTide(7, 180, 0);
        Checks.same("no tide again", 0, x.north(24));
    }

    private static void hourOfTide() {
        SailLog x = allDay();
        Checks.same("0", 0, x.setTide(0, 90, 60));
        Checks.same("23", 0, x.setTide(23, 0, 60));
        Checks.same("the first hour's", 600, x.east(24));
        // 23:00 to 23:59.
        Checks.same("the last hour's", 590, x.north(24));
        Checks.noEntry("-1", () -> x.setTide(-1, 0, 0));
        Checks.noEntry("24", () -> x.setTide(24, 0, 0));
    }

    private static void directionOfTide() {
        int[] directions = {0, 1, 90, 180, 270, 359};
        int[] easts = {0, 17, 1000, 0, -1000, -17};
        int[] norths = {1000, 999, 0, -1000, 0, 999};
        for (int i = 0; i < directions.length; i++) {
            SailLog x = Logs.one(0, 123, 0, 0);
            x.log(60, 0, 0, 0, 0);
            x.setTide(0, directions[i], 100);
            Checks.same("east by " + directions[i], easts[i], x.east(1));
            Checks.same("north by " + directions[i], norths[i], x.north(1));
        }
        SailLog x = new SailLog();
        Checks.outOfRange("-1", () -> x.setTide(0, -1, 0));
        Checks.outOfRange("360", () -> x.setTide(0, 360, 0));
    }

    private static void driftOfTide() {
        SailLog x = allDay();
        x.setTide(0, 90, 0);
        Checks.same("0", 0, x.east(1));
        x.setTide(0, 90, 1);
        Checks.same("a tenth of a knot for an hour", 10, x.east(1));
        x.setTide(0, 90, 100);
        Checks.same("100", 1000, x.east(1));
        Checks.outOfRange("-1", () -> x.setTide(0, 0, -1));
        Checks.outOfRange("101", () -> x.setTide(0, 0, 101));
    }

    private static void driftBefore() {
        SailLog x = new SailLog();
        x.setTide(0, 90, 100);
        x.setTide(23, 90, 1);
        Checks.same("100", 100, x.setTide(0, 0, 50));
        Checks.same("that of this hour", 1, x.setTide(23, 0, 2));
        Checks.outOfRange("a refused one", () -> x.setTide(0, 360, 7));
        Checks.same("that of the refused one is not kept", 50, x.setTide(0, 0, 0));
        Checks.same("0", 0, x.setTide(0, 0, 100));
    }

    private static void driftAtFirst() {
        SailLog x = new SailLog();
        for (int hour = 0; hour < 24; hour++) {
            Checks.same("hour " + hour, 0, x.setTide(hour, 90, 100 - hour));
        }
    }

    private static void noSuchHour() {
        SailLog x = new SailLog();
        int[] hours = {Integer.MIN_VALUE, -24, -1, 24, 25, 60, 1439, Integer.MAX_VALUE};
        for (int hour : hours) {
            Checks.noEntry("hour " + hour, () -> x.setTide(hour, 0, 0));
            Checks.noEntry("hour " + hour + ", all wrong", () -> x.setTide(hour, -1, 101));
        }
    }

    private static void tideOutOfRange() {
        SailLog x = new SailLog();
        int[] farOut = {Integer.MIN_VALUE, -360, -1, 360, 361, Integer.MAX_VALUE};
        for (int number : farOut) {
            Checks.outOfRange("direction " + number, () -> x.setTide(23, number, 0));
            Checks.outOfRange("drift " + number, () -> x.setTide(23, 0, number));
        }
        Checks.outOfRange("drift 101", () -> x.setTide(0, 0, 101));
        Checks.same("nothing was kept", 0, x.setTide(23, 359, 100));
    }

    // ---- entries and sine

    private static void howMany() {
        SailLog x = new SailLog();
        Checks.same("an empty log", 0, x.entries());
        for (int i = 0; i < 60; i++) {
            x.log(i, 0, 0, 0, 0);
            Checks.same("after " + (i + 1), i + 1, x.entries());
        }
        Checks.badState("one more", () -> x.log(60, 0, 0, 0, 0));
        Checks.same("a full log", 60, x.entries());
        x.setFaults(500, 0, 0);
        Checks.same("with faults", 60, x.entries());
    }

    private static void sineOfAnAngle() {
        SailLog x = new SailLog();
        int[] angles = {0, 30, 45, 90, 135, 150, 180, 210, 225, 270, 315, 330};
        // 4000 * 4500 / 36000 is 500; 24300000 / 34425 is 705.9.
        int[] sines = {0, 500, 705, 1000, 705, 500, 0, -500, -705, -1000, -705, -500};
        for (int i = 0; i < angles.length; i++) {
            Checks.same("sine(" + angles[i] + ")", sines[i], x.sine(angles[i]));
        }
    }

    private static void anyNumber() {
        SailLog x = new SailLog();
        Checks.same("360", 0, x.sine(360));
        Checks.same("361", 17, x.sine(361));
        Checks.same("450", 1000, x.sine(450));
        Checks.same("630", -1000, x.sine(630));
        Checks.same("719", -17, x.sine(719));
        Checks.same("720", 0, x.sine(720));
        Checks.same("-1", -17, x.sine(-1));
        Checks.same("-90", -1000, x.sine(-90));
        Checks.same("-179", -17, x.sine(-179));
        Checks.same("-180", 0, x.sine(-180));
        Checks.same("-181", 17, x.sine(-181));
        Checks.same("-270", 1000, x.sine(-270));
        Checks.same("-360", 0, x.sine(-360));
        Checks.same("-361", -17, x.sine(-361));
        // 2147483647 is 127 more than a multiple of 360, -2147483648 is 232 more than one.
        Checks.same("the greatest", 797, x.sine(Integer.MAX_VALUE));
        Checks.same("an east of the greatest", 1000, x.sine(Integer.MAX_VALUE - 37));
        Checks.same("the least", -786, x.sine(Integer.MIN_VALUE));
        Checks.same("a west of the least", -1000, x.sine(Integer.MIN_VALUE + 38));
    }

    private static void rangeOfSines() {
        SailLog x = new SailLog();
        for (int angle = 0; angle < 360; angle++) {
            int sine = x.sine(angle);
            Checks.holds("sine(" + angle + ")", sine >= -1000 && sine <= 1000);
            Checks.holds("the ends at 90 and 270 alone, " + angle,
                    (sine == 1000) == (angle == 90) && (sine == -1000) == (angle == 270));
        }
        Checks.same("the most", 1000, x.sine(90));
        Checks.same("the least", -1000, x.sine(270));
    }
}
