/** The sentences of "The table" and "Turns". */
final class TableTermsTest {
    private static final String TABLE = "The table";
    private static final String TURNS = "Turns";

    private TableTermsTest() {
    }

    static void run() {
        Document.holds(TABLE, "It has a row for each ten degrees of the open angle (0 to 9, "
                + "10 to 19, and so on: the rows 0 to 18),", TableTermsTest::rows);
        Document.holds(TABLE, "and a column for each 40 tenths of strength (0 to 39, and so on;",
                TableTermsTest::columns);
        Document.holds(TABLE, "the last one, 9, also for all that is above).",
                TableTermsTest::lastColumn);
        Document.holds(TABLE, "In each field is the greatest true speed of all entries whose wind "
                + "is there;", TableTermsTest::greatestSpeed);
        Document.holds(TABLE, "0 if there is none.", TableTermsTest::noneThere);
        Document.holds(TABLE, "The middle of a row r is the angle 10 * r + 5,",
                TableTermsTest::middles);
        Document.holds(TABLE, "but 180 for the row 18.", TableTermsTest::middleOfTheLastRow);
        Document.holds(TURNS, "An entry is a turn if it is on one side, and the entry before it on "
                + "the other one:", TableTermsTest::turns);
        Document.holds(TURNS, "a TACK, if the open angles of both are less than 180, together,",
                TableTermsTest::tacks);
        Document.holds(TURNS, "otherwise a GYBE.", TableTermsTest::gybes);
        Document.holds(TURNS, "It costs, for itself and each of the next two entries",
                TableTermsTest::itselfAndTheNextTwo);
        Document.holds(TURNS, "that are there:", TableTermsTest::nextOnesThatAreThere);
        Document.holds(TURNS, "by how much the true speed of the entry before the turn is above "
                + "that of this one,", TableTermsTest::aboveThisOne);
        Document.holds(TURNS, "if it is,", TableTermsTest::notAbove);
        Document.holds(TURNS, "times the minutes from the entry before this one to this one.",
                TableTermsTest::minutes);
    }

    private static void rows() {
        // At 2 knots, strengths and felt angles whose winds are nearest to the edges of a row.
        int[][] edges = {
            {70, 7, 9}, {40, 5, 11}, {30, 6, 18}, {30, 7, 20}, {30, 10, 29}, {30, 11, 30},
            {30, 13, 37}, {30, 15, 41}, {30, 18, 49}, {30, 20, 53}, {30, 23, 57}, {30, 24, 60},
            {30, 29, 68}, {30, 30, 70}, {30, 38, 79}, {30, 39, 81}, {30, 45, 88}, {20, 2, 90},
            {20, 19, 99}, {20, 20, 101}, {20, 34, 108}, {20, 37, 110}, {20, 56, 119},
            {20, 59, 120}, {20, 72, 127}, {20, 79, 131}, {20, 95, 139}, {20, 102, 143},
            {20, 111, 147}, {10, 51, 150}, {10, 27, 158}, {10, 21, 160}, {10, 11, 169},
            {10, 10, 171}, {10, 2, 178}, {10, 0, 180},
        };
        for (int[] edge : edges) {
            SailLog starboard = Logs.one(20, 0, edge[0], edge[1]);
            Checks.same("the angle", edge[2], starboard.angle(0));
            Checks.same("the row of " + edge[2], edge[2] / 10, rowOf(starboard));
        }
        int[][] toPort = {
            {70, 353, 351}, {40, 355, 349}, {30, 354, 342}, {30, 353, 340}, {30, 314, 272},
            {30, 311, 270}, {20, 341, 261}, {20, 338, 259}, {20, 244, 213}, {10, 289, 210},
            {10, 211, 191}, {10, 209, 189}, {10, 185, 182},
        };
        for (int[] edge : toPort) {
            SailLog port = Logs.one(20, 0, edge[0], edge[1]);
            Checks.same("the angle", edge[2], port.angle(0));
            Checks.same("the row of " + edge[2], (360 - edge[2]) / 10, rowOf(port));
        }
        Checks.same("the row of 0", 0, rowOf(Logs.one(20, 0, 40, 0)));
    }

    private static int rowOf(SailLog x) {
        return Math.floorDiv(Logs.fieldOf(x, SailLog::best), 10);
    }

    /** The column of a wind from ahead of this strength, at 5 knots. */
    private static int columnOf(int strength) {
        SailLog x = Logs.one(50, 0, strength + 50, 0);
        Checks.same("the strength", strength, x.strength(0));
        return Logs.fieldOf(x, SailLog::best);
    }

    private static void columns() {
        for (int column = 0; column < 9; column++) {
            Checks.same("from " + 40 * column, column, columnOf(40 * column));
            Checks.same("to " + (40 * column + 39), column, columnOf(40 * column + 39));
        }
        Checks.same("from 360", 9, columnOf(360));
    }

    private static void lastColumn() {
        Checks.same("359", 8, columnOf(359));
        Checks.same("399", 9, columnOf(399));
        Checks.same("400", 9, columnOf(400));
        Checks.same("439", 9, columnOf(439));
        Checks.same("440", 9, columnOf(440));
        SailLog x = Logs.one(300, 0, 600, 180);
        x.setFaults(1500, 0, 0);
        Checks.same("the greatest strength", 1050, x.strength(0));
        Checks.same("the greatest", 189, Logs.fieldOf(x, SailLog::best));
        Checks.same("the greatest speed", 450, x.best(18, 9));
    }

    private static void greatestSpeed() {
        // Winds from ahead of 0 to 39, entry by entry.
        SailLog x = Logs.one(50, 0, 60, 0);
        Checks.same("the first one", 50, x.best(0, 0));
        x.log(1, 49, 0, 60, 0);
        Checks.same("a slower one", 50, x.best(0, 0));
        x.log(2, 51, 0, 60, 0);
        Checks.same("a faster one", 51, x.best(0, 0));
        x.log(3, 51, 0, 60, 0);
        Checks.same("as fast a one", 51, x.best(0, 0));
        x.log(4, 200, 0, 240, 0);
        Checks.same("one in another field", 51, x.best(0, 0));
        x.setFaults(1500, 0, 0);
        // Speeds of 75, 73, 76, 76 and 300: the boat's own wind is the greater one.
        Checks.same("true speeds, from astern", 76, x.best(18, 0));
        Checks.same("the other field", 300, x.best(18, 1));
        Checks.same("nothing is left", 0, x.best(0, 0));
        SailLog full = Logs.full(Logs.told(70, 0, 80, 0), Logs.told(60, 0, 80, 0),
                Logs.told(75, 0, 80, 0));
        Checks.same("the last one of a full log", 75, full.best(0, 0));
        full.setFaults(500, 0, 0);
        Checks.same("of a full log with faults", 37, full.best(0, 1));
    }

    private static void noneThere() {
        Checks.same("an empty log", Logs.NO_FIELD, Logs.fieldOf(new SailLog(), SailLog::best));
        Checks.same("a boat that lies still", Logs.NO_FIELD,
                Logs.fieldOf(Logs.still(90), SailLog::best));
        SailLog x = Logs.one(1, 0, 100, 0);
        Checks.same("one entry", 1, x.best(0, 2));
        x.setFaults(500, 0, 0);
        Checks.same("half a tenth is none", Logs.NO_FIELD, Logs.fieldOf(x, SailLog::best));
    }

    /** Two entries whose rows are nearly as good: a degree more or less makes the other best. */
    private static final int[][] NEARLY_AS_GOOD = {
        // The best row and its speed, strength and felt angle; the other row and its ones.
        {7, 23, 30, 25, 0, 6, 10, 0}, {0, 10, 10, 0, 2, 11, 20, 10},
        {8, 11, 20, 50, 1, 1, 10, 10}, {1, 11, 20, 5, 4, 15, 20, 15},
        {7, 7, 10, 30, 2, 2, 10, 15}, {2, 7, 20, 15, 5, 11, 20, 30},
        {4, 7, 10, 15, 3, 6, 10, 15}, {3, 10, 20, 20, 2, 9, 20, 15},
        {5, 5, 10, 30, 4, 4, 10, 25}, {4, 1, 10, 40, 8, 8, 10, 30},
        {1, 3, 10, 10, 5, 5, 10, 30}, {5, 3, 10, 40, 6, 4, 10, 40},
        {6, 2, 10, 50, 3, 1, 10, 30}, {3, 1, 10, 30, 7, 3, 10, 55},
        {7, 4, 10, 50, 0, 1, 10, 0}, {5, 1, 10, 50, 8, 6, 10, 45},
        {8, 3, 10, 65, 7, 1, 10, 65},
        {9, 3, 10, 75, 10, 1, 10, 95}, {10, 2, 10, 90, 9, 5, 10, 60},
        {10, 4, 10, 80, 17, 1, 10, 170}, {11, 2, 10, 100, 14, 1, 10, 140},
        {12, 3, 10, 105, 11, 4, 10, 90}, {16, 3, 10, 155, 12, 5, 10, 95},
        {13, 1, 10, 125, 9, 8, 10, 40}, {12, 5, 10, 95, 13, 4, 10, 115},
        {14, 10, 10, 105, 15, 9, 10, 125}, {13, 7, 10, 100, 14, 6, 10, 120},
        {15, 7, 10, 130, 12, 11, 10, 10}, {10, 7, 10, 60, 15, 2, 10, 145},
        {16, 11, 10, 135, 13, 15, 10, 35}, {9, 11, 20, 55, 16, 1, 10, 160},
        {17, 10, 10, 165, 15, 11, 10, 115}, {10, 23, 30, 55, 17, 6, 10, 165},
    };

    private static void middles() {
        for (int[] two : NEARLY_AS_GOOD) {
            SailLog x = Logs.one(two[5], 0, two[6], two[7]);
            x.log(1, two[1], 0, two[2], two[3]);
            String what = "of the rows " + two[0] + " and " + two[4];
            Checks.same(what + ", the best one's speed", two[1], x.best(two[0], 0));
            Checks.same(what + ", the other one's speed", two[5], x.best(two[4], 0));
            Checks.same(what, two[0], two[0] < 9 ? x.bestUp(0) : x.bestDown(0));
        }
    }

    private static void middleOfTheLastRow() {
        // 11 * 1000 is more than 26 * 423, but 11 * 999 (the cosine of 179 and 181) is less.
        SailLog x = Logs.one(26, 0, 30, 55);
        x.log(1, 11, 0, 0, 0);
        Checks.same("the speed in the row 11", 26, x.best(11, 0));
        Checks.same("the speed in the row 18", 11, x.best(18, 0));
        Checks.same("1000 and not 999", 18, x.bestDown(0));
        // As fast as in the row 17: 180 and not 185, whose cosine is that of 175.
        SailLog y = Logs.one(240, 0, 130, 155);
        y.log(1, 240, 0, 120, 180);
        Checks.same("the speed in the row 17", 240, y.best(17, 9));
        Checks.same("not the middle of ten degrees", 18, y.bestDown(9));
    }

    private static void turns() {
        int[][] isOne = {{2, 358}, {358, 2}, {178, 182}, {182, 178}, {2, 182}, {178, 358}};
        for (int[] angles : isOne) {
            Checks.holds("from " + angles[0] + " to " + angles[1],
                    Logs.still(angles).turn(1) != SailLog.NO_TURN);
        }
        int[][] isNone = {{2, 178}, {182, 358}, {2, 0}, {0, 2}, {358, 0}, {0, 358}, {178, 180},
            {180, 178}, {182, 180}, {180, 182}, {0, 180}, {60, 60}};
        for (int[] angles : isNone) {
            Checks.same("from " + angles[0] + " to " + angles[1], SailLog.NO_TURN,
                    Logs.still(angles).turn(1));
        }
        SailLog x = Logs.still(60, 0, 300, 180, 60);
        for (int entry = 0; entry < 5; entry++) {
            Checks.same("by way of neither side, " + entry, SailLog.NO_TURN, x.turn(entry));
        }
    }

    private static void tacks() {
        Checks.same("4 together", SailLog.TACK, Logs.still(2, 358).turn(1));
        Checks.same("178 together", SailLog.TACK, Logs.still(88, 270).turn(1));
        Checks.same("179 together", SailLog.TACK, Logs.still(60, 241).turn(1));
        Checks.same("179 together, to starboard", SailLog.TACK, Logs.still(241, 60).turn(1));
        Checks.same("179 together, one is aft", SailLog.TACK, Logs.still(29, 210).turn(1));
    }

    private static void gybes() {
        Checks.same("180 together", SailLog.GYBE, Logs.still(60, 240).turn(1));
        Checks.same("180 together, both abeam", SailLog.GYBE, Logs.still(90, 270).turn(1));
        Checks.same("180 together, to starboard", SailLog.GYBE, Logs.still(182, 2).turn(1));
        Checks.same("181 together", SailLog.GYBE, Logs.still(61, 240).turn(1));
        Checks.same("356 together", SailLog.GYBE, Logs.still(178, 182).turn(1));
    }

    /** Entries a minute apart, the first one at 10 knots to starboard, the others to port. */
    private static SailLog tacked(int... speeds) {
        SailLog x = Logs.one(100, 0, 600, 60);
        for (int i = 0; i < speeds.length; i++) {
            x.log(i + 1, speeds[i], 0, 600, 300);
        }
        Checks.same("a tack", SailLog.TACK, x.turn(1));
        return x;
    }

    private static void itselfAndTheNextTwo() {
        Checks.same("itself", 1, tacked(99, 100, 100, 100).cost(1));
        Checks.same("the next one", 2, tacked(100, 98, 100, 100).cost(1));
        Checks.same("the second one", 4, tacked(100, 100, 96, 100).cost(1));
        Checks.same("not the third one", 0, tacked(100, 100, 100, 0).cost(1));
        Checks.same("all of them", 7, tacked(99, 98, 96, 0).cost(1));
        // Back to starboard at once: entries that are turns themselves count too.
        SailLog x = Logs.one(100, 0, 600, 60);
        x.log(1, 99, 0, 600, 300);
        x.log(2, 97, 0, 600, 60);
        x.log(3, 93, 0, 600, 0);
        Checks.same("the next one is a turn, the second on neither side", 11, x.cost(1));
        Checks.same("a turn at the end", 2 + 6, x.cost(2));
    }

    private static void nextOnesThatAreThere() {
        Checks.same("no next one", 1, tacked(99).cost(1));
        Checks.same("one next one", 3, tacked(99, 98).cost(1));
        Checks.same("two next ones", 7, tacked(99, 98, 96).cost(1));
        SailLog x = new SailLog();
        for (int i = 0; i < 60; i++) {
            x.log(i, i < 57 ? 100 : 99, 0, 600, i % 2 == 0 ? 60 : 300);
        }
        Checks.same("the entry 56 of 60", 2, x.cost(56));
        Checks.same("the entry 57 of 60", 3, x.cost(57));
        Checks.same("the entry 58 of 60", 0, x.cost(58));
        Checks.same("the entry 59 of 60", 0, x.cost(59));
        SailLog late = Logs.full(Logs.told(9, 0, 600, 60), Logs.told(9, 0, 600, 60),
                Logs.told(8, 0, 600, 300));
        Checks.same("the last entry of 60", 1, late.cost(59));
    }

    private static void aboveThisOne() {
        // Each is set against the 100 before the turn, not against the one before it.
        Checks.same("100 and 50", 150, tacked(50, 50, 50).cost(1));
        Checks.same("getting faster", 10 + 5 + 1, tacked(90, 95, 99).cost(1));
        SailLog x = tacked(99, 97, 95);
        x.setFaults(500, 0, 0);
        // 50 before, then 49, 48 and 47.
        Checks.same("true speeds", 6, x.cost(1));
        // Half of 3 and half of 2 are both 1.
        SailLog y = Logs.one(3, 0, 600, 60);
        y.log(1, 2, 0, 600, 300);
        Checks.same("told speeds", 1, y.cost(1));
        y.setFaults(500, 0, 0);
        Checks.same("true speeds that are alike", 0, y.cost(1));
    }

    private static void notAbove() {
        Checks.same("just as fast", 0, tacked(100, 100, 100).cost(1));
        Checks.same("a tenth faster", 0, tacked(101, 101, 101).cost(1));
        Checks.same("a tenth slower", 3, tacked(99, 99, 99).cost(1));
        Checks.same("what is won is not taken away", 2, tacked(99, 300, 99).cost(1));
    }

    private static void minutes() {
        SailLog x = Logs.one(100, 0, 600, 60);
        x.log(2, 99, 0, 600, 300);
        x.log(5, 90, 0, 600, 300);
        x.log(10, 0, 0, 600, 300);
        Checks.same("2, 3 and 5 minutes", 2 + 30 + 500, x.cost(1));
        SailLog shortest = Logs.one(300, 0, 600, 60);
        shortest.log(1, 0, 0, 600, 300);
        Checks.same("a minute", 300, shortest.cost(1));
        SailLog longest = Logs.one(300, 0, 600, 60);
        longest.log(1439, 0, 0, 600, 300);
        longest.setFaults(1500, 0, 0);
        Checks.same("still a turn", SailLog.TACK, longest.turn(1));
        Checks.same("a day but a minute", 450 * 1439, longest.cost(1));
    }
}
