/** Promises 7 to 11: speed, strength, angle, from, side. */
final class WindTest {
    private WindTest() {
    }

    static void run() {
        speeds();
        strengths();
        angles();
        anglesOfSeveralTheLeast();
        origins();
        sides();
        noSuchEntries();
    }

    private static void speeds() {
        SailLog x = Logs.one(300, 0, 0, 0);
        x.log(1, 1, 0, 0, 0);
        Checks.same("speed", 300, x.speed(0));
        x.setFaults(1500, 0, 0);
        Checks.same("speed * 1.5", 450, x.speed(0));
        Checks.same("1.5 is rounded down", 1, x.speed(1));
        x.setFaults(500, 0, 0);
        Checks.same("speed * 0.5", 150, x.speed(0));
        Checks.same("0.5 is rounded down", 0, x.speed(1));
    }

    private static void strengths() {
        Checks.same("no wind is felt, the boat lies still", 0, Logs.one(0, 0, 0, 0).strength(0));
        Checks.same("the boat's own wind", 60, Logs.one(60, 0, 0, 0).strength(0));
        Checks.same("all the wind is the boat's", 0, Logs.one(100, 0, 100, 0).strength(0));
        Checks.same("from ahead it is less", 50, Logs.one(100, 0, 150, 0).strength(0));
        Checks.same("from astern it is more", 250, Logs.one(100, 0, 150, 180).strength(0));
        // 60000 and 80000 make 100000.
        Checks.same("from the side", 100, Logs.one(60, 0, 80, 90).strength(0));
        Checks.same("from the other side", 100, Logs.one(60, 0, 80, 270).strength(0));
        // 70500 twice makes 99702.
        Checks.same("rounded down", 99, Logs.one(0, 0, 100, 45).strength(0));
        SailLog most = Logs.one(300, 0, 600, 180);
        most.setFaults(1500, 0, 0);
        Checks.same("the greatest", 1050, most.strength(0));
    }

    private static void angles() {
        Checks.same("right ahead", 0, Logs.one(0, 0, 100, 0).angle(0));
        Checks.same("abeam", 90, Logs.one(0, 0, 100, 90).angle(0));
        Checks.same("astern", 180, Logs.one(0, 0, 100, 180).angle(0));
        Checks.same("abeam to port", 270, Logs.one(0, 0, 100, 270).angle(0));
        Checks.same("the boat's own wind comes from astern", 180, Logs.one(60, 0, 0, 0).angle(0));
        Checks.same("60", 60, Logs.one(0, 0, 100, 60).angle(0));
        Checks.same("300", 300, Logs.one(0, 0, 100, 300).angle(0));
        // The sine of 2 is 35, that of 1 is 17: cosines of both are 999, so that 2 reaches
        // farther than 1 for each wind of that side, and 0 farther than 2 for one felt at 1.
        Checks.same("1 is nearest to 0", 0, Logs.one(0, 0, 100, 1).angle(0));
        Checks.same("2", 2, Logs.one(0, 0, 100, 2).angle(0));
        Checks.same("358", 358, Logs.one(0, 0, 100, 358).angle(0));
        Checks.same("359 is nearest to 0", 0, Logs.one(0, 0, 100, 359).angle(0));
        Checks.same("178", 178, Logs.one(0, 0, 100, 178).angle(0));
        Checks.same("182", 182, Logs.one(0, 0, 100, 182).angle(0));
        Checks.same("the wind is farther aft than felt", 115, Logs.one(50, 0, 110, 90).angle(0));
        SailLog x = Logs.one(0, 0, 100, 345);
        x.setFaults(1000, 0, 15);
        Checks.same("the vane is set on to 0", 0, x.angle(0));
        x.setFaults(1000, 20, 20);
        Checks.same("the vane is set on over 0", 5, x.angle(0));
        x.setFaults(1000, 20, -5);
        Checks.same("the vane is set back", 340, x.angle(0));
    }

    private static void anglesOfSeveralTheLeast() {
        Checks.same("no wind at all", 0, Logs.one(0, 0, 0, 77).angle(0));
        Checks.same("just the boat's wind", 0, Logs.one(100, 0, 100, 0).angle(0));
        int tied = 0;
        for (int felt = 0; felt < 360; felt++) {
            for (int speed = 0; speed < 200; speed += 50) {
                SailLog x = Logs.one(speed, 0, 100, felt);
                long ahead = 100L * PlainModel.sine(felt + 90) - 1000L * speed;
                long across = 100L * PlainModel.sine(felt);
                int least = -1;
                long farthest = Long.MIN_VALUE;
                for (int angle = 0; angle < 360; angle++) {
                    long reached = ahead * PlainModel.sine(angle + 90)
                            + across * PlainModel.sine(angle);
                    if (reached > farthest) {
                        farthest = reached;
                        least = angle;
                    } else if (reached == farthest) {
                        tied++;
                    }
                }
                Checks.same("angle of " + speed + ", " + felt, least, x.angle(0));
            }
        }
        Checks.holds("some angles are tied", tied > 0);
    }

    private static void origins() {
        Checks.same("from right ahead", 123, Logs.one(0, 123, 100, 0).from(0));
        Checks.same("heading and angle", 213, Logs.one(0, 123, 100, 90).from(0));
        Checks.same("over north", 20, Logs.one(0, 320, 100, 60).from(0));
        Checks.same("just north", 0, Logs.one(0, 300, 100, 60).from(0));
        SailLog x = Logs.one(0, 10, 100, 0);
        x.setFaults(1000, -20, 0);
        Checks.same("the compass is set back over north", 350, x.from(0));
        x.setFaults(1000, 20, 0);
        Checks.same("the compass is set on", 30, x.from(0));
    }

    private static void sides() {
        Checks.same("0", SailLog.NEITHER, Logs.one(0, 0, 100, 0).side(0));
        Checks.same("2", SailLog.STARBOARD, Logs.one(0, 0, 100, 2).side(0));
        Checks.same("90", SailLog.STARBOARD, Logs.one(0, 0, 100, 90).side(0));
        Checks.same("178", SailLog.STARBOARD, Logs.one(0, 0, 100, 178).side(0));
        Checks.same("180", SailLog.NEITHER, Logs.one(0, 0, 100, 180).side(0));
        Checks.same("182", SailLog.PORT, Logs.one(0, 0, 100, 182).side(0));
        Checks.same("270", SailLog.PORT, Logs.one(0, 0, 100, 270).side(0));
        Checks.same("358", SailLog.PORT, Logs.one(0, 0, 100, 358).side(0));
        Checks.same("no wind", SailLog.NEITHER, Logs.one(0, 0, 0, 90).side(0));
        SailLog x = Logs.one(0, 0, 100, 350);
        x.setFaults(1000, 0, 20);
        Checks.same("the vane set on changes the side", SailLog.STARBOARD, x.side(0));
    }

    private static void noSuchEntries() {
        SailLog empty = new SailLog();
        SailLog two = Logs.one(10, 10, 10, 10);
        two.log(1, 10, 10, 10, 10);
        refusesEntry(empty, 0);
        refusesEntry(two, 2);
        refusesEntry(two, 60);
        refusesEntry(two, -1);
        refusesEntry(two, Integer.MAX_VALUE);
        refusesEntry(two, Integer.MIN_VALUE);
    }

    private static void refusesEntry(SailLog x, int entry) {
        Checks.noEntry("speed", () -> x.speed(entry));
        Checks.noEntry("strength", () -> x.strength(entry));
        Checks.noEntry("angle", () -> x.angle(entry));
        Checks.noEntry("from", () -> x.from(entry));
        Checks.noEntry("side", () -> x.side(entry));
        Checks.noEntry("turn", () -> x.turn(entry));
        Checks.noEntry("cost", () -> x.cost(entry));
        Checks.noEntry("east", () -> x.east(entry));
        Checks.noEntry("north", () -> x.north(entry));
    }
}
