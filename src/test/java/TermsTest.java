/** The sentences of "Terms" on numbers and angles, of "Sines" and of "The log". */
final class TermsTest {
    private TermsTest() {
    }

    static void run() {
        String terms = "Terms";
        Document.holds(terms, "Divisions of whole numbers are rounded down, also below 0.",
                TermsTest::divisionsAreRoundedDown);
        Document.holds(terms, "Angles and headings are in degrees, 0 to 359, clockwise;",
                TermsTest::anglesAreClockwise);
        Document.holds(terms, "those that are added or taken away from one another are taken "
                + "modulo 360.", TermsTest::anglesAreModulo360);
        Document.holds(terms, "The root of a number is the greatest whole number whose square "
                + "is not above it.", TermsTest::rootIsTheGreatestNotAbove);
        String sines = "Sines";
        Document.holds(sines, "The sine of an angle d below 180 is "
                + "4000 * d * (180 - d) / (40500 - d * (180 - d));", TermsTest::sinesBelow180);
        Document.holds(sines, "that of an angle d from 180 on is that of d - 180, with the "
                + "other sign.", TermsTest::sinesFrom180);
        Document.holds(sines, "The cosine of an angle d is the sine of d + 90.",
                TermsTest::cosines);
        String log = "The log";
        Document.holds(log, "There are at most 60 entries, numbered from 0.",
                TermsTest::atMost60);
        Document.holds(log, "An entry has a minute, 0 to 1439, later than that of the entry "
                + "before,", TermsTest::minutesGetLater);
        Document.holds(log, "a speed and a heading of the boat, and the strength and the angle "
                + "of the wind as it is felt, the angle being that from the bow to where the "
                + "wind comes from.", TermsTest::feltFromTheBow);
        Document.holds(log, "Speeds and strengths are in tenths of knots.",
                TermsTest::tenthsOfKnots);
        Document.holds(log, "All of them are as instruments tell: the true speed is the told one "
                + "times the factor / 1000, 1000 at first;", TermsTest::trueSpeed);
        Document.holds(log, "the true heading is the told one and the fault of the compass, the "
                + "true angle the told one and the fault of the vane, both 0 at first.",
                TermsTest::trueHeadingAndAngle);
    }

    private static void divisionsAreRoundedDown() {
        SailLog x = Logs.one(1, 0, 0, 0);
        x.setFaults(999, 0, 0);
        Checks.same("999 / 1000", 0, x.speed(0));
        x.setFaults(1000, 0, 0);
        Checks.same("1000 / 1000", 1, x.speed(0));
        Checks.same("-6001 / 6000", -2, east(270, 268));
        Checks.same("-6000 / 6000", -1, Logs.eastOf(270) / 1000);
        Checks.same("-5999 / 6000", -1, east(270, 92));
        Checks.same("5999 / 6000", 0, east(90, 268));
        Checks.same("6001 / 6000", 1, east(90, 92));
        // Open angles of 30 and 41: the half of 11 and of -11.
        Checks.same("11 / 2", 5, Logs.still(30, 319).vaneShown());
        Checks.same("-11 / 2", -6, Logs.still(41, 330).vaneShown());
        // Open angles of 30 and 20.
        Checks.same("-10 / 2", -5, Logs.still(30, 340).vaneShown());
    }

    /** 0.6 knots for a minute, and then a leg against a tide that makes 1 east or west. */
    private static int east(int heading, int tide) {
        SailLog x = new SailLog();
        x.log(0, 6, heading, 0, 0);
        x.log(1, 0, 0, 0, 0);
        // The sines of 87 and 88 are 998 and 999, those of 267 and 268 are -998 and -999.
        x.log(60, 1, tide == 268 ? 87 : 267, 0, 0);
        x.log(61, 0, 0, 0, 0);
        x.setTide(1, tide, 1);
        return x.east(3);
    }

    private static void anglesAreClockwise() {
        Checks.same("0 is north", 1000, Logs.northOf(0));
        Checks.same("90 is east", 1000, Logs.eastOf(90));
        Checks.same("180 is south", -1000, Logs.northOf(180));
        Checks.same("270 is west", -1000, Logs.eastOf(270));
        Checks.same("359 is a little west", -17, Logs.eastOf(359));
        Checks.same("an angle of 90 is to starboard", SailLog.STARBOARD, Logs.still(90).side(0));
        Checks.same("an angle of 358 is to port", SailLog.PORT, Logs.still(358).side(0));
        SailLog x = new SailLog();
        Checks.outOfRange("a heading of 360", () -> x.log(0, 0, 360, 0, 0));
        Checks.outOfRange("an angle of 360", () -> x.log(0, 0, 0, 0, 360));
        Checks.outOfRange("a heading of -1", () -> x.log(0, 0, -1, 0, 0));
        Checks.outOfRange("an angle of -1", () -> x.log(0, 0, 0, 0, -1));
    }

    private static void anglesAreModulo360() {
        Checks.same("heading 359 and 1", 0, trueHeading(359, 1));
        Checks.same("heading 359 and 20", 19, trueHeading(359, 20));
        Checks.same("heading 340 and 19", 359, trueHeading(340, 19));
        Checks.same("heading 0 less 1", 359, trueHeading(0, -1));
        Checks.same("heading 19 less 20", 359, trueHeading(19, -20));
        Checks.same("heading 20 less 20", 0, trueHeading(20, -20));
        Checks.same("vane 355 and 5", 0, trueAngle(355, 5));
        Checks.same("vane 345 and 20", 5, trueAngle(345, 20));
        Checks.same("vane 0 less 20", 340, trueAngle(0, -20));
        Checks.same("vane 5 less 7", 358, trueAngle(5, -7));
        Checks.same("heading 359 and angle 2", 1, Logs.one(0, 359, 100, 2).from(0));
        Checks.same("heading 300 and angle 60", 0, Logs.one(0, 300, 100, 60).from(0));
        Checks.same("heading 299 and angle 60", 359, Logs.one(0, 299, 100, 60).from(0));
        // A boat that sails with winds from ahead alone: open angles of 0 to 9.
        SailLog x = Logs.one(50, 0, 100, 0);
        Checks.same("heading 358 less bearing 0", 358, x.bestCourse(1, 349, 0));
        Checks.same("heading 1 less bearing 359", 1, x.bestCourse(1, 10, 359));
        Checks.same("heading 0 less bearing 10 is 350", 10, x.bestCourse(1, 9, 10));
        Checks.same("heading 0 less bearing 359 is 1", 359, x.bestCourse(1, 0, 359));
    }

    private static int trueHeading(int told, int compass) {
        // A wind from right ahead comes from where the boat heads.
        SailLog x = Logs.one(0, told, 100, 0);
        x.setFaults(1000, compass, 0);
        return x.from(0);
    }

    private static int trueAngle(int told, int vane) {
        SailLog x = Logs.still(told);
        x.setFaults(1000, 0, vane);
        return x.angle(0);
    }

    private static void rootIsTheGreatestNotAbove() {
        Checks.same("0", 0, Logs.one(0, 0, 0, 0).strength(0));
        // 60000 and 80000 make just 100000, 20000 and 99000 just 101000.
        Checks.same("the square of 100000", 100, Logs.one(60, 0, 80, 90).strength(0));
        Checks.same("the square of 101000", 101, Logs.one(20, 0, 99, 90).strength(0));
        // Ahead is -85864, across 88000: 15116370496 is 3904 below the square of 123000.
        Checks.same("122999.98", 122, Logs.one(238, 0, 176, 30).strength(0));
        // Ahead is -90928, across 4000: 8280991744 is 8256 below the square of 91000.
        Checks.same("90999.95", 90, Logs.one(84, 0, 8, 150).strength(0));
        Checks.same("30999.92", 30, Logs.one(29, 0, 7, 100).strength(0));
        // Ahead is 939, across 343: 999.68.
        Checks.same("999.68", 0, Logs.one(0, 0, 1, 20).strength(0));
        SailLog greatest = Logs.one(300, 0, 600, 180);
        greatest.setFaults(1500, 0, 0);
        Checks.same("the square of 1050000", 1050, greatest.strength(0));
    }

    private static void sinesBelow180() {
        SailLog x = new SailLog();
        Checks.same("sine(0)", 0, x.sine(0));
        // 716000 / 40321 is 17.8.
        Checks.same("sine(1)", 17, x.sine(1));
        Checks.same("sine(29)", 484, x.sine(29));
        Checks.same("sine(30)", 500, x.sine(30));
        // 32396000 / 32401 is 999.8.
        Checks.same("sine(89)", 999, x.sine(89));
        Checks.same("sine(90)", 1000, x.sine(90));
        Checks.same("sine(91)", 999, x.sine(91));
        Checks.same("sine(178)", 35, x.sine(178));
        Checks.same("sine(179)", 17, x.sine(179));
        for (int angle = 0; angle < 180; angle++) {
            Checks.same("sine(" + angle + ")", PlainModel.sine(angle), x.sine(angle));
            Checks.holds("sine(" + angle + ") is not below 0", x.sine(angle) >= 0);
        }
    }

    private static void sinesFrom180() {
        SailLog x = new SailLog();
        Checks.same("sine(180)", 0, x.sine(180));
        // The sign is changed after the division is rounded down.
        Checks.same("sine(181)", -17, x.sine(181));
        Checks.same("sine(225)", -705, x.sine(225));
        Checks.same("sine(269)", -999, x.sine(269));
        Checks.same("sine(270)", -1000, x.sine(270));
        Checks.same("sine(359)", -17, x.sine(359));
        for (int angle = 180; angle < 360; angle++) {
            Checks.same("sine(" + angle + ")", -x.sine(angle - 180), x.sine(angle));
        }
    }

    private static void cosines() {
        int[] angles = {0, 1, 89, 90, 91, 135, 179, 180, 181, 225, 269, 270, 271, 315, 359};
        int[] cosines = {1000, 999, 17, 0, -17, -705, -999, -1000, -999, -705, -17, 0, 17, 705,
                999};
        for (int i = 0; i < angles.length; i++) {
            Checks.same("cosine of " + angles[i], cosines[i], Logs.northOf(angles[i]));
        }
        // Ahead is 86 * 1000 less than 100 * 864: all is across, 50000.
        Checks.same("a wind felt at 330", 50, Logs.one(86, 0, 100, 330).strength(0));
        Checks.same("a wind felt at 270", 100, Logs.one(60, 0, 80, 270).strength(0));
    }

    private static void atMost60() {
        SailLog x = new SailLog();
        Checks.noEntry("no entry 0 at first", () -> x.speed(0));
        for (int i = 0; i < 60; i++) {
            Checks.same("the number of entry " + i, i, x.log(i, i, 0, 0, 0));
        }
        Checks.badState("the entry 60", () -> x.log(60, 60, 0, 0, 0));
        Checks.same("all are there", 60, x.entries());
        for (int i = 0; i < 60; i++) {
            Checks.same("the speed of entry " + i, i, x.speed(i));
        }
        Checks.noEntry("no entry 60", () -> x.speed(60));
        Checks.noEntry("no entry -1", () -> x.speed(-1));
    }

    private static void minutesGetLater() {
        SailLog x = new SailLog();
        Checks.outOfRange("the minute -1", () -> x.log(-1, 0, 0, 0, 0));
        Checks.same("the minute 0", 0, x.log(0, 0, 0, 0, 0));
        Checks.badState("the minute 0 again", () -> x.log(0, 0, 0, 0, 0));
        Checks.same("the minute 1", 1, x.log(1, 0, 0, 0, 0));
        Checks.badState("the minute 0 after 1", () -> x.log(0, 0, 0, 0, 0));
        Checks.outOfRange("the minute 1440", () -> x.log(1440, 0, 0, 0, 0));
        Checks.same("the minute 1439", 2, x.log(1439, 0, 0, 0, 0));
        Checks.badState("the minute 1439 again", () -> x.log(1439, 0, 0, 0, 0));
        // The day is over: no minute wraps around to the next.
        Checks.badState("the minute 0 after 1439", () -> x.log(0, 0, 0, 0, 0));
        Checks.same("no more entries", 3, x.entries());
    }

    private static void feltFromTheBow() {
        Checks.same("from the bow", 90, Logs.one(0, 90, 100, 0).from(0));
        Checks.same("90 from the bow", 180, Logs.one(0, 90, 100, 90).from(0));
        Checks.same("180 from the bow", 270, Logs.one(0, 90, 100, 180).from(0));
        Checks.same("270 from the bow", 0, Logs.one(0, 90, 100, 270).from(0));
        Checks.same("358 from the bow", 88, Logs.one(0, 90, 100, 358).from(0));
    }

    private static void tenthsOfKnots() {
        // 300 tenths are 30 knots, half a mile each minute; a wind of 600 is 30 knots more.
        SailLog x = Logs.one(300, 0, 600, 0);
        x.log(1, 0, 0, 0, 0);
        Checks.same("30 knots for a minute", 50, x.north(1));
        Checks.same("60 knots felt at 30 knots", 300, x.strength(0));
        Checks.same("a tenth of a knot", 1, Logs.one(0, 0, 1, 0).strength(0));
    }

    private static void trueSpeed() {
        Checks.same("1000 at first", 300, Logs.one(300, 0, 0, 0).speed(0));
        Checks.same("1 * 1000", 1, trueSpeed(1, 1000));
        Checks.same("300 * 1500", 450, trueSpeed(300, 1500));
        Checks.same("1 * 1500", 1, trueSpeed(1, 1500));
        Checks.same("300 * 500", 150, trueSpeed(300, 500));
        Checks.same("299 * 500", 149, trueSpeed(299, 500));
        Checks.same("1 * 500", 0, trueSpeed(1, 500));
        Checks.same("2 * 500", 1, trueSpeed(2, 500));
        Checks.same("300 * 999", 299, trueSpeed(300, 999));
        Checks.same("0 * 1500", 0, trueSpeed(0, 1500));
        // The factor is not that of the wind.
        SailLog x = Logs.still(0);
        x.setFaults(1500, 0, 0);
        Checks.same("the wind that is felt", 100, x.strength(0));
    }

    private static int trueSpeed(int told, int factor) {
        SailLog x = Logs.one(told, 0, 0, 0);
        x.setFaults(factor, 0, 0);
        return x.speed(0);
    }

    private static void trueHeadingAndAngle() {
        int[] angles = {0, 60, 61, 90, 299, 300};
        for (int angle : angles) {
            Checks.same("no fault of the vane at first", angle, Logs.still(angle).angle(0));
        }
        SailLog x = Logs.one(0, 100, 100, 20);
        Checks.same("still none", 20, x.angle(0));
        Checks.same("no fault of the compass at first", 120, x.from(0));
        x.setFaults(1000, 20, 0);
        Checks.same("the compass leaves the angle", 20, x.angle(0));
        Checks.same("the compass is set on", 140, x.from(0));
        x.setFaults(1000, -20, 0);
        Checks.same("the compass is set back", 100, x.from(0));
        x.setFaults(1000, 0, 10);
        Checks.same("the vane is set on", 30, x.angle(0));
        Checks.same("the wind goes with the vane", 130, x.from(0));
        x.setFaults(1000, 0, -20);
        Checks.same("the vane is set back", 0, x.angle(0));
        Checks.same("the wind goes back with the vane", 100, x.from(0));
        x.setFaults(1000, 20, -20);
        Checks.same("one against the other", 120, x.from(0));
    }
}
