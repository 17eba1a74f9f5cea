/** The sentences of promises 7 to 11: speed, strength, angle, from, side. */
final class WindPromisesTest {
    private static final String SPEED = "Promise 7: speed";
    private static final String STRENGTH = "Promise 8: strength";
    private static final String ANGLE = "Promise 9: angle";
    private static final String FROM = "Promise 10: from";
    private static final String SIDE = "Promise 11: side";
    private static final String ENTRY = "`entry`: an entry";
    private static final String TENTHS = "Returns tenths of knots.";
    private static final String DEGREES = "Returns 0 to 359.";
    private static final String THROWS =
            "Throws `IndexOutOfBoundsException` if there is no such entry";

    private WindPromisesTest() {
    }

    static void run() {
        Document.holds(SPEED, "Returns the true speed of an entry.",
                WindPromisesTest::trueSpeed);
        Document.holds(SPEED, ENTRY, WindPromisesTest::speedOfEntries);
        Document.holds(SPEED, TENTHS, WindPromisesTest::tenthsOfSpeed);
        Document.holds(SPEED, THROWS, () -> Logs.refusesOtherEntries(SailLog::speed));
        Document.holds(STRENGTH, "Returns the strength of the wind of an entry.",
                WindPromisesTest::strengthOfTheWind);
        Document.holds(STRENGTH, ENTRY, WindPromisesTest::strengthOfEntries);
        Document.holds(STRENGTH, TENTHS, WindPromisesTest::tenthsOfStrength);
        Document.holds(STRENGTH, THROWS, () -> Logs.refusesOtherEntries(SailLog::strength));
        Document.holds(ANGLE, "Returns the angle of the wind of an entry.",
                WindPromisesTest::angleOfTheWind);
        Document.holds(ANGLE, ENTRY, WindPromisesTest::angleOfEntries);
        Document.holds(ANGLE, DEGREES, WindPromisesTest::rangeOfAngles);
        Document.holds(ANGLE, THROWS, () -> Logs.refusesOtherEntries(SailLog::angle));
        Document.holds(FROM, "Returns where the wind of an entry comes from.",
                WindPromisesTest::whereFrom);
        Document.holds(FROM, ENTRY, WindPromisesTest::fromOfEntries);
        Document.holds(FROM, DEGREES, WindPromisesTest::rangeOfOrigins);
        Document.holds(FROM, THROWS, () -> Logs.refusesOtherEntries(SailLog::from));
        Document.holds(SIDE, "Returns the side of an entry.", WindPromisesTest::sideOfAnEntry);
        Document.holds(SIDE, ENTRY, WindPromisesTest::sideOfEntries);
        Document.holds(SIDE, "Returns NEITHER, STARBOARD or PORT.",
                WindPromisesTest::rangeOfSides);
        Document.holds(SIDE, THROWS, () -> Logs.refusesOtherEntries(SailLog::side));
    }

    private static void trueSpeed() {
        SailLog x = Logs.one(300, 0, 0, 0);
        x.log(1, 1, 0, 0, 0);
        Checks.same("the greatest told", 300, x.speed(0));
        x.setFaults(1500, 0, 0);
        Checks.same("the greatest", 450, x.speed(0));
        Checks.same("1.5", 1, x.speed(1));
        x.setFaults(999, 0, 0);
        Checks.same("299.7", 299, x.speed(0));
        Checks.same("0.999", 0, x.speed(1));
    }

    private static void speedOfEntries() {
        SailLog x = new SailLog();
        for (int i = 0; i < 60; i++) {
            x.log(i, 5 * i + 1, 0, 0, 0);
        }
        for (int i = 0; i < 60; i++) {
            Checks.same("entry " + i, 5 * i + 1, x.speed(i));
        }
    }

    private static void tenthsOfSpeed() {
        Checks.same("none", 0, Logs.one(0, 0, 0, 0).speed(0));
        Checks.same("the least", 1, Logs.one(1, 0, 0, 0).speed(0));
        SailLog x = Logs.one(15, 0, 0, 0);
        x.log(60, 0, 0, 0, 0);
        Checks.same("1.5 knots", 15, x.speed(0));
        Checks.same("1.5 miles in an hour", 150, x.north(1));
    }

    private static void strengthOfTheWind() {
        Checks.same("none", 0, Logs.one(100, 0, 100, 0).strength(0));
        Checks.same("just one more", 1, Logs.one(100, 0, 101, 0).strength(0));
        Checks.same("just one less", 1, Logs.one(100, 0, 99, 0).strength(0));
        Checks.same("not as it is felt", 50, Logs.one(50, 0, 100, 0).strength(0));
        SailLog x = Logs.one(100, 0, 100, 0);
        x.setFaults(1010, 0, 0);
        Checks.same("with the true speed", 1, x.strength(0));
        x.setFaults(1000, 0, 20);
        // Ahead is -6100, across 34300: 34838.
        Checks.same("with the true angle", 34, x.strength(0));
    }

    private static void strengthOfEntries() {
        SailLog x = new SailLog();
        for (int i = 0; i < 60; i++) {
            x.log(i, 0, 0, 10 * i + 1, 0);
        }
        for (int i = 0; i < 60; i++) {
            Checks.same("entry " + i, 10 * i + 1, x.strength(i));
        }
    }

    private static void tenthsOfStrength() {
        Checks.same("the least", 1, Logs.one(0, 0, 1, 90).strength(0));
        Checks.same("the greatest told", 600, Logs.one(0, 0, 600, 90).strength(0));
        SailLog x = Logs.one(300, 0, 600, 180);
        x.setFaults(1500, 0, 0);
        Checks.same("the greatest", 1050, x.strength(0));
    }

    private static void angleOfTheWind() {
        Checks.same("no wind", 0, Logs.one(0, 0, 0, 200).angle(0));
        Checks.same("from ahead", 0, Logs.one(99, 0, 100, 0).angle(0));
        Checks.same("the boat is faster", 180, Logs.one(101, 0, 100, 0).angle(0));
        Checks.same("not as it is felt", 134, Logs.one(100, 0, 100, 90).angle(0));
        Checks.same("not with the heading", 90, Logs.one(0, 300, 100, 90).angle(0));
        SailLog x = Logs.still(345);
        x.setFaults(1000, 0, 15);
        Checks.same("with the true angle, 360", 0, x.angle(0));
        x.setFaults(1000, 20, 17);
        Checks.same("with the true angle, 362", 2, x.angle(0));
    }

    private static void angleOfEntries() {
        int[] first = Logs.told(0, 0, 100, 60);
        SailLog x = Logs.full(first, Logs.told(0, 0, 100, 90), Logs.told(0, 0, 100, 300));
        Checks.same("the first one", 60, x.angle(0));
        Checks.same("the second one", 90, x.angle(1));
        Checks.same("the one before the last", 90, x.angle(58));
        Checks.same("the last one", 300, x.angle(59));
    }

    private static void rangeOfAngles() {
        SailLog x = new SailLog();
        for (int i = 0; i < 60; i++) {
            x.log(i, 0, 0, 100, i < 30 ? i : 300 + i);
        }
        for (int vane = -20; vane <= 20; vane += 20) {
            x.setFaults(1000, 0, vane);
            for (int i = 0; i < 60; i++) {
                int angle = x.angle(i);
                Checks.holds("entry " + i + " with a vane at " + vane + ": " + angle,
                        angle >= 0 && angle <= 359);
            }
        }
        Checks.same("the least", 0, Logs.still(0).angle(0));
        Checks.same("the greatest that is", 358, Logs.still(358).angle(0));
    }

    private static void whereFrom() {
        Checks.same("heading 10, angle 340", 350, Logs.one(0, 10, 100, 340).from(0));
        Checks.same("heading 10, angle 358", 8, Logs.one(0, 10, 100, 358).from(0));
        Checks.same("just the boat's wind", 190, Logs.one(50, 10, 0, 0).from(0));
        Checks.same("no wind", 10, Logs.one(0, 10, 0, 77).from(0));
        SailLog x = Logs.one(0, 10, 100, 340);
        x.setFaults(1000, 10, 0);
        Checks.same("with the true heading, 360", 0, x.from(0));
        x.setFaults(1000, -11, 0);
        Checks.same("with the true heading, 339", 339, x.from(0));
    }

    private static void fromOfEntries() {
        SailLog x = new SailLog();
        for (int i = 0; i < 60; i++) {
            x.log(i, 0, 6 * i, 100, 0);
        }
        for (int i = 0; i < 60; i++) {
            Checks.same("entry " + i, 6 * i, x.from(i));
        }
    }

    private static void rangeOfOrigins() {
        int[] headings = {0, 1, 179, 180, 339, 340, 358, 359};
        int[] angles = {0, 2, 178, 180, 182, 340, 358};
        for (int heading : headings) {
            for (int angle : angles) {
                SailLog x = Logs.one(0, heading, 100, angle);
                Checks.same(heading + " and " + angle, (heading + angle) % 360, x.from(0));
                x.setFaults(1000, -20, 0);
                Checks.same(heading + " less 20 and " + angle, (heading + 340 + angle) % 360,
                        x.from(0));
                x.setFaults(1000, 20, 0);
                Checks.same(heading + ", 20 and " + angle, (heading + 20 + angle) % 360,
                        x.from(0));
            }
        }
    }

    private static void sideOfAnEntry() {
        Checks.same("the wind's side, felt at 0", SailLog.NEITHER, Logs.one(50, 0, 100, 0).side(0));
        Checks.same("felt to starboard", SailLog.STARBOARD, Logs.one(50, 0, 100, 30).side(0));
        Checks.same("felt to port", SailLog.PORT, Logs.one(50, 0, 100, 330).side(0));
        SailLog x = Logs.still(358);
        x.setFaults(1000, 20, 0);
        Checks.same("the compass changes no side", SailLog.PORT, x.side(0));
        x.setFaults(1000, 0, 2);
        Checks.same("the vane is set on to 0", SailLog.NEITHER, x.side(0));
        x.setFaults(1000, 0, 4);
        Checks.same("the vane is set on to 2", SailLog.STARBOARD, x.side(0));
        SailLog fast = Logs.one(300, 0, 40, 1);
        // Across is 680, ahead -260040.
        Checks.same("felt at 1, it is right astern", SailLog.NEITHER, fast.side(0));
    }

    private static void sideOfEntries() {
        SailLog x = Logs.full(Logs.told(0, 0, 100, 60), Logs.told(0, 0, 100, 0),
                Logs.told(0, 0, 100, 300));
        Checks.same("the first one", SailLog.STARBOARD, x.side(0));
        Checks.same("the second one", SailLog.NEITHER, x.side(1));
        Checks.same("the one before the last", SailLog.NEITHER, x.side(58));
        Checks.same("the last one", SailLog.PORT, x.side(59));
    }

    private static void rangeOfSides() {
        for (int angle = 0; angle < 360; angle++) {
            SailLog x = Logs.still(angle);
            int at = x.angle(0);
            int due = at == 0 || at == 180 ? 0 : at < 180 ? 1 : 2;
            Checks.same("felt at " + angle, due, x.side(0));
        }
    }
}
