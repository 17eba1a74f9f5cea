/** The sentences of "The wind as it is". */
final class WindTermsTest {
    private static final String WIND = "The wind as it is";

    private WindTermsTest() {
    }

    static void run() {
        Document.holds(WIND, "With V as the true speed, W as the strength and A as the true angle "
                + "of what is felt: ahead is W * cosine of A less 1000 * V, and across is "
                + "W * sine of A.", WindTermsTest::aheadAndAcross);
        Document.holds(WIND, "The strength of the wind of the entry is the root of ahead squared "
                + "and across squared, together, and this root then divided by 1000;",
                WindTermsTest::strength);
        Document.holds(WIND, "its angle is the angle a for which ahead * cosine of a and across * "
                + "sine of a, together, are greatest,", WindTermsTest::angleThatReachesFarthest);
        Document.holds(WIND, "of several the least.", WindTermsTest::ofSeveralTheLeast);
        Document.holds(WIND, "It comes from the true heading and the angle, added.",
                WindTermsTest::from);
        Document.holds(WIND, "The entry is on STARBOARD if the angle is 1 to 179,",
                WindTermsTest::starboard);
        Document.holds(WIND, "on PORT if it is 181 to 359,", WindTermsTest::port);
        Document.holds(WIND, "otherwise on neither side.", WindTermsTest::neither);
        Document.holds(WIND, "The open angle is the angle, or 360 less it, if that is less: "
                + "0 to 180.", WindTermsTest::openAngle);
    }

    private static void isWind(String what, int strength, int angle, SailLog x) {
        Checks.same(what + ", strength", strength, x.strength(0));
        Checks.same(what + ", angle", angle, x.angle(0));
    }

    private static void aheadAndAcross() {
        isWind("neither boat nor wind", 0, 0, Logs.one(0, 0, 0, 90));
        isWind("no boat's wind", 600, 90, Logs.one(0, 0, 600, 90));
        isWind("just the boat's wind", 300, 180, Logs.one(300, 0, 0, 90));
        isWind("ahead is 1000", 1, 0, Logs.one(99, 0, 100, 0));
        isWind("ahead is 0", 0, 0, Logs.one(100, 0, 100, 0));
        isWind("ahead is -1000", 1, 180, Logs.one(101, 0, 100, 0));
        isWind("ahead is as much as across", 141, 134, Logs.one(100, 0, 100, 90));
        isWind("across is below 0", 141, 224, Logs.one(100, 0, 100, 270));
        SailLog x = Logs.one(300, 0, 600, 160);
        x.setFaults(1500, 0, 20);
        isWind("the greatest, with the true speed and angle", 1050, 180, x);
    }

    private static void strength() {
        // Ahead squared and across squared: 9 and 16 make 25, not 3 and 4 seven.
        isWind("3 and 4", 5, 127, Logs.one(3, 0, 4, 90));
        Checks.same("a root of 0", 0, Logs.one(0, 0, 0, 0).strength(0));
        Checks.same("a root of 999", 0, Logs.one(0, 0, 1, 20).strength(0));
        Checks.same("a root of 1000", 1, Logs.one(0, 0, 1, 0).strength(0));
        Checks.same("a root of 1000 to port", 1, Logs.one(0, 0, 1, 270).strength(0));
        Checks.same("a root of 122999", 122, Logs.one(238, 0, 176, 30).strength(0));
        Checks.same("a root of 123000", 123, Logs.one(27, 0, 120, 90).strength(0));
        Checks.same("a root of 900000", 900, Logs.one(300, 0, 600, 180).strength(0));
    }

    private static void angleThatReachesFarthest() {
        int[] quarters = {0, 90, 180, 270};
        for (int angle : quarters) {
            Checks.same("on an axis", angle, Logs.still(angle).angle(0));
        }
        // Next to the axes: the sine of 1 is 17, that of 2 is 35, cosines of both are 999.
        int[] felt = {1, 2, 3, 87, 89, 91, 93, 177, 178, 179, 181, 182, 269, 271, 358, 359};
        int[] angles = {0, 2, 2, 88, 90, 90, 92, 178, 178, 180, 180, 182, 270, 270, 358, 0};
        for (int i = 0; i < felt.length; i++) {
            Checks.same("felt at " + felt[i], angles[i], Logs.still(felt[i]).angle(0));
        }
        for (int angle = 0; angle < 360; angle += 7) {
            SailLog x = Logs.one(40, 0, 90, angle);
            long ahead = 90L * PlainModel.sine(angle + 90) - 40000;
            long across = 90L * PlainModel.sine(angle);
            long found = reached(ahead, across, x.angle(0));
            for (int other = 0; other < 360; other++) {
                Checks.holds(other + " reaches no farther than the angle, felt at " + angle,
                        reached(ahead, across, other) <= found);
            }
        }
    }

    private static long reached(long ahead, long across, int angle) {
        return ahead * PlainModel.sine(angle + 90) + across * PlainModel.sine(angle);
    }

    private static void ofSeveralTheLeast() {
        Checks.same("all alike: no wind", 0, Logs.one(0, 0, 0, 359).angle(0));
        Checks.same("all alike: the boat's wind is all", 0, Logs.one(100, 0, 100, 0).angle(0));
        // Speed, strength and felt angle, and the angles that are alike.
        int[][] alike = {
            {101, 250, 1, 0, 2}, {3, 20, 8, 8, 9}, {11, 120, 9, 9, 11}, {31, 200, 20, 22, 25},
            {0, 1, 45, 44, 46}, {93, 350, 73, 88, 90}, {1, 1, 2, 90, 92}, {0, 1, 135, 134, 136},
            {35, 1, 88, 178, 180}, {35, 1, 270, 180, 182}, {0, 1, 225, 224, 226},
            {7, 16, 270, 245, 248}, {1, 1, 358, 268, 270}, {93, 350, 287, 270, 272},
        };
        for (int[] told : alike) {
            int least = Logs.one(told[0], 0, told[1], told[2]).angle(0);
            Checks.same("of " + told[3] + " to " + told[4], told[3], least);
        }
        // Ahead is 35 * 4250, across is -4250.
        Checks.same("of 0 and 358", 0, Logs.one(101, 0, 250, 359).angle(0));
    }

    private static void from() {
        Checks.same("0 and 0", 0, Logs.one(0, 0, 100, 0).from(0));
        Checks.same("299 and 60", 359, Logs.one(0, 299, 100, 60).from(0));
        Checks.same("300 and 60", 0, Logs.one(0, 300, 100, 60).from(0));
        Checks.same("301 and 60", 1, Logs.one(0, 301, 100, 60).from(0));
        Checks.same("359 and 358", 357, Logs.one(0, 359, 100, 358).from(0));
        // The angle of the wind as it is, not of what is felt: it is felt at 90.
        Checks.same("as it is", 134, Logs.one(100, 0, 100, 90).from(0));
        SailLog x = Logs.one(0, 359, 100, 350);
        x.setFaults(1000, 20, 10);
        Checks.same("379 and 0", 19, x.from(0));
        x.setFaults(1000, -20, -10);
        Checks.same("339 and 340", 319, x.from(0));
    }

    // No wind is at 1, 179, 181 or 359: 2, 178, 182 and 358 are the nearest to the edges.

    private static void starboard() {
        int[] angles = {2, 5, 88, 90, 92, 175, 178};
        for (int angle : angles) {
            SailLog x = Logs.still(angle);
            Checks.same("the angle", angle, x.angle(0));
            Checks.same("the side of " + angle, SailLog.STARBOARD, x.side(0));
        }
        Checks.same("178, of 178 and 180", SailLog.STARBOARD, Logs.one(35, 0, 1, 88).side(0));
    }

    private static void port() {
        int[] angles = {182, 185, 268, 270, 272, 355, 358};
        for (int angle : angles) {
            SailLog x = Logs.still(angle);
            Checks.same("the angle", angle, x.angle(0));
            Checks.same("the side of " + angle, SailLog.PORT, x.side(0));
        }
    }

    private static void neither() {
        Checks.same("0", SailLog.NEITHER, Logs.still(0).side(0));
        Checks.same("180", SailLog.NEITHER, Logs.still(180).side(0));
        Checks.same("felt at 1, it is at 0", SailLog.NEITHER, Logs.still(1).side(0));
        Checks.same("felt at 359, it is at 0", SailLog.NEITHER, Logs.still(359).side(0));
        Checks.same("felt at 179, it is at 180", SailLog.NEITHER, Logs.still(179).side(0));
        Checks.same("felt at 181, it is at 180", SailLog.NEITHER, Logs.still(181).side(0));
        Checks.same("180, of 180 and 182", SailLog.NEITHER, Logs.one(35, 0, 1, 270).side(0));
        Checks.same("no wind at all", SailLog.NEITHER, Logs.one(0, 0, 0, 90).side(0));
    }

    private static void openAngle() {
        // Half of what the open angle to port is above that to starboard, which is 2.
        int[] angles = {358, 272, 270, 268, 182};
        int[] opens = {2, 88, 90, 92, 178};
        for (int i = 0; i < angles.length; i++) {
            Checks.same("to port " + angles[i], (opens[i] - 2) / 2,
                    Logs.still(2, angles[i]).vaneShown());
            Checks.same("to starboard " + opens[i], (2 - opens[i]) / 2,
                    Logs.still(opens[i], 358).vaneShown());
        }
        SailLog astern = Logs.one(10, 0, 0, 0);
        Checks.same("180 is open by 180", 10, astern.best(18, 0));
        SailLog ahead = Logs.one(10, 0, 20, 0);
        Checks.same("0 is open by 0", 10, ahead.best(0, 0));
    }
}
