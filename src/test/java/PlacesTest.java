/** Promises 20 to 22: east, north, vaneShown. */
final class PlacesTest {
    private PlacesTest() {
    }

    static void run() {
        start();
        legs();
        roundedDownAltogether();
        faults();
        tides();
        hoursOfTides();
        vane();
        vaneRoundedDown();
        vaneOfOneSide();
    }

    private static void isAt(String what, int east, int north, SailLog x, int entry) {
        Checks.same(what + ", east", east, x.east(entry));
        Checks.same(what + ", north", north, x.north(entry));
    }

    private static void start() {
        SailLog x = new SailLog();
        x.log(700, 300, 45, 0, 0);
        x.setTide(11, 45, 100);
        isAt("the entry 0", 0, 0, x, 0);
    }

    private static void legs() {
        SailLog x = new SailLog();
        x.log(0, 60, 90, 0, 0);
        x.log(100, 30, 0, 0, 0);
        x.log(200, 60, 270, 0, 0);
        x.log(210, 60, 180, 0, 0);
        x.log(240, 300, 77, 0, 0);
        isAt("10 miles east", 1000, 0, x, 1);
        isAt("5 miles north", 1000, 500, x, 2);
        isAt("1 mile west", 900, 500, x, 3);
        isAt("3 miles south", 900, 200, x, 4);
        SailLog y = new SailLog();
        y.log(0, 300, 30, 0, 0);
        y.log(1439, 0, 0, 0, 0);
        // The sine of 30 is 500; its cosine, the sine of 120, is 864.
        isAt("all day", 35975, 62164, y, 1);
    }

    private static void roundedDownAltogether() {
        SailLog x = new SailLog();
        x.log(0, 4, 45, 0, 0);
        x.log(1, 4, 45, 0, 0);
        x.log(2, 4, 45, 0, 0);
        x.log(3, 4, 225, 0, 0);
        x.log(7, 0, 0, 0, 0);
        // 4 * 705 a minute.
        isAt("2820", 0, 0, x, 1);
        isAt("5640", 0, 0, x, 2);
        isAt("8460", 1, 1, x, 3);
        isAt("-2820 is rounded down", -1, -1, x, 4);
        SailLog y = new SailLog();
        y.log(0, 1, 87, 0, 0);
        y.log(1, 0, 0, 0, 0);
        y.setTide(0, 268, 1);
        // The sines of 87 and 88 are 998 and 999: the boat is set west by the least there is.
        Checks.same("-1 is rounded down", -1, y.east(1));
    }

    private static void faults() {
        SailLog x = new SailLog();
        x.log(0, 60, 80, 0, 0);
        x.log(100, 0, 0, 0, 0);
        x.setFaults(500, 10, 0);
        isAt("half the speed, set on to east", 500, 0, x, 1);
        x.setFaults(1500, 10, 20);
        isAt("more than told", 1500, 0, x, 1);
        SailLog y = new SailLog();
        y.log(0, 60, 350, 0, 0);
        y.log(100, 0, 0, 0, 0);
        y.setFaults(1000, 10, 0);
        isAt("set on to north", 0, 1000, y, 1);
    }

    private static void tides() {
        SailLog x = new SailLog();
        x.log(0, 60, 0, 0, 0);
        x.log(60, 0, 0, 0, 0);
        isAt("no tide", 0, 600, x, 1);
        x.setTide(0, 90, 20);
        isAt("the tide goes east", 200, 600, x, 1);
        x.setTide(0, 180, 60);
        isAt("the tide goes against the boat", 0, 0, x, 1);
        x.setTide(0, 180, 61);
        isAt("the tide is faster", 0, -10, x, 1);
        x.setFaults(500, 20, 0);
        x.setTide(0, 270, 100);
        // The boat at 30 with a heading of 20: sines 343 and 939, 60 minutes.
        Checks.same("sine of 20", 343, x.sine(20));
        Checks.same("cosine of 20", 939, x.sine(110));
        isAt("faults are not the tide's", -898, 281, x, 1);
    }

    private static void hoursOfTides() {
        SailLog x = new SailLog();
        x.log(59, 0, 0, 0, 0);
        x.log(60, 0, 0, 0, 0);
        x.log(119, 0, 0, 0, 0);
        x.log(1439, 0, 0, 0, 0);
        x.setTide(0, 90, 60);
        isAt("the hour 0", 10, 0, x, 1);
        isAt("not the hour 0", 10, 0, x, 2);
        x.setTide(1, 0, 60);
        isAt("the hour 1", 10, 590, x, 2);
        // The hour of the first of two holds up to the next.
        isAt("still the hour 1", 10, 590 + 13200, x, 3);
        x.setTide(2, 0, 100);
        x.setTide(23, 0, 100);
        isAt("other hours", 10, 590 + 13200, x, 3);
        SailLog late = new SailLog();
        late.log(1438, 0, 0, 0, 0);
        late.log(1439, 0, 0, 0, 0);
        late.setTide(23, 90, 60);
        isAt("the last hour", 10, 0, late, 1);
    }

    private static int shown(int... angles) {
        return Logs.still(angles).vaneShown();
    }

    private static void vane() {
        Checks.same("both alike", 0, shown(60, 300));
        Checks.same("port is 20 more", 10, shown(41, 299));
        Checks.same("port is 60 less", -30, shown(120, 300));
        // Port 60 and 30, starboard 41, 15 and 13.
        Checks.same("means", (45 - 23) / 2, shown(41, 300, 15, 330, 13));
        Checks.same("those on neither side", 0, shown(0, 60, 180, 300, 0));
        SailLog x = new SailLog();
        x.log(0, 0, 0, 100, 60);
        x.log(1, 0, 0, 100, 270);
        Checks.same("without fault", 15, x.vaneShown());
        x.setFaults(1000, 0, 15);
        Checks.same("set on by what was shown", 0, x.vaneShown());
    }

    private static void vaneRoundedDown() {
        // 41 - 30 is 11, 30 - 41 is -11.
        Checks.same("5.5", 5, shown(30, 319));
        Checks.same("-5.5", -6, shown(41, 330));
        // Port 60 and 41: 50; starboard 41.
        Checks.same("the mean of port is 50.5", 4, shown(41, 300, 319));
        Checks.same("each mean by its own count", 4, shown(41, 41, 41, 300, 319));
        // Starboard 60 and 41: 50; port 41: -9.
        Checks.same("the mean of starboard is 50.5", -5, shown(41, 60, 319));
    }

    private static void vaneOfOneSide() {
        Checks.same("no entries", -1000, shown());
        Checks.same("just starboard", -1000, shown(41, 60));
        Checks.same("just port", -1000, shown(300));
        Checks.same("just neither side", -1000, shown(0, 180));
        Checks.same("port and neither side", -1000, shown(0, 300));
    }
}
