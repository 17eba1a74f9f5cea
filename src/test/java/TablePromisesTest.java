/** The sentences of promises 12 to 16: best, bestByLog, bestUp, bestDown, bestCourse. */
final class TablePromisesTest {
    private static final String BEST = "Promise 12: best";
    private static final String BY_LOG = "Promise 13: bestByLog";
    private static final String UP = "Promise 14: bestUp";
    private static final String DOWN = "Promise 15: bestDown";
    private static final String COURSE = "Promise 16: bestCourse";
    private static final String ROW = "`row`: 0 to 18";
    private static final String COLUMN = "`column`: 0 to 9";
    private static final String SPEED = "Returns the speed;";
    private static final String NONE_THERE = "0 if there is none.";
    private static final String ALL_ARE_0 = "NONE if all these speeds are 0.";
    private static final String LOWEST = "of several the lowest.";
    private static final String NO_FIELD =
            "Throws `IndexOutOfBoundsException` if there is no such row or column";
    private static final String NO_COLUMN =
            "Throws `IndexOutOfBoundsException` if there is no such column";

    private static final int[] FAR_OUT = {Integer.MIN_VALUE, -10, -1, 19, 20, 190, 256,
        Integer.MAX_VALUE};

    private TablePromisesTest() {
    }

    static void run() {
        promisesOfFields();
        promisesOfRows();
        promiseOfCourses();
    }

    private static void promisesOfFields() {
        Document.holds(BEST, "Returns a field of the table, as it is kept.",
                TablePromisesTest::asItIsKept);
        Document.holds(BEST, ROW, () -> rowsOf(SailLog::best));
        Document.holds(BEST, COLUMN, () -> columnsOf(SailLog::best));
        Document.holds(BEST, SPEED, () -> speedsOf(SailLog::best));
        Document.holds(BEST, NONE_THERE, () -> noneThere(SailLog::best));
        Document.holds(BEST, NO_FIELD, () -> noSuchField(SailLog::best));
        Document.holds(BY_LOG, "Returns the same, found anew from all entries.",
                TablePromisesTest::foundAnew);
        Document.holds(BY_LOG, ROW, () -> rowsOf(SailLog::bestByLog));
        Document.holds(BY_LOG, COLUMN, () -> columnsOf(SailLog::bestByLog));
        Document.holds(BY_LOG, SPEED, () -> speedsOf(SailLog::bestByLog));
        Document.holds(BY_LOG, NONE_THERE, () -> noneThere(SailLog::bestByLog));
        Document.holds(BY_LOG, NO_FIELD, () -> noSuchField(SailLog::bestByLog));
    }

    private static void promisesOfRows() {
        Document.holds(UP, "Returns the row with which one comes up the wind best: of the rows "
                + "0 to 8", TablePromisesTest::rowsUp);
        Document.holds(UP, "that with the greatest speed times cosine of its middle,",
                TablePromisesTest::greatestUp);
        Document.holds(UP, LOWEST, TablePromisesTest::lowestUp);
        Document.holds(UP, COLUMN, () -> columnsOfRows(SailLog::bestUp, 0, 0));
        Document.holds(UP, "Returns the row;", TablePromisesTest::rowOfUp);
        Document.holds(UP, ALL_ARE_0, TablePromisesTest::noneUp);
        Document.holds(UP, NO_COLUMN, () -> noSuchColumn(SailLog::bestUp));
        Document.holds(DOWN, "Returns the row with which one comes down the wind best: of the "
                + "rows 9 to 18", TablePromisesTest::rowsDown);
        Document.holds(DOWN, "that with the least speed times cosine of its middle,",
                TablePromisesTest::leastDown);
        Document.holds(DOWN, LOWEST, TablePromisesTest::lowestDown);
        Document.holds(DOWN, COLUMN, () -> columnsOfRows(SailLog::bestDown, 180, 18));
        Document.holds(DOWN, "Returns the row;", TablePromisesTest::rowOfDown);
        Document.holds(DOWN, ALL_ARE_0, TablePromisesTest::noneDown);
        Document.holds(DOWN, NO_COLUMN, () -> noSuchColumn(SailLog::bestDown));
    }

    private static void promiseOfCourses() {
        Document.holds(COURSE, "Returns the heading that comes nearer to a mark best: of all "
                + "headings,", TablePromisesTest::allHeadings);
        Document.holds(COURSE, "each with the speed of the field for its open angle to the wind,",
                TablePromisesTest::openAngleToTheWind);
        Document.holds(COURSE, "that with the greatest speed times cosine of (heading less "
                + "bearing),", TablePromisesTest::greatestTowardsTheMark);
        Document.holds(COURSE, LOWEST, TablePromisesTest::lowestHeading);
        Document.holds(COURSE, COLUMN, TablePromisesTest::columnsOfCourses);
        Document.holds(COURSE, "`from`: 0 to 359: where the wind comes from",
                TablePromisesTest::fromOfCourses);
        Document.holds(COURSE, "`bearing`: 0 to 359: of the mark",
                TablePromisesTest::bearingOfCourses);
        Document.holds(COURSE, "Returns the heading;", TablePromisesTest::returnsTheHeading);
        Document.holds(COURSE, "NONE if none comes nearer (no such product is above 0).",
                TablePromisesTest::noneComesNearer);
        Document.holds(COURSE, NO_COLUMN,
                () -> noSuchColumn((x, column) -> x.bestCourse(column, 0, 0)));
        Document.holds(COURSE, "Throws `IllegalArgumentException` if from or bearing is out of "
                + "range", TablePromisesTest::courseOutOfRange);
    }

    // ---- best and bestByLog

    private static void asItIsKept() {
        SailLog x = new SailLog();
        x.setFaults(1500, 0, 0);
        x.log(0, 40, 0, 80, 0);
        Checks.same("kept at once", 60, x.best(0, 0));
        Checks.badState("a refused entry", () -> x.log(0, 50, 0, 90, 0));
        Checks.outOfRange("another refused entry", () -> x.log(1, 50, 0, 90, 360));
        Checks.same("a refused entry is not kept", 60, x.best(0, 0));
        Checks.outOfRange("refused faults", () -> x.setFaults(1000, 0, 21));
        Checks.same("as with the faults before", 60, x.best(0, 0));
        x.setFaults(1000, 0, 0);
        Checks.same("a greater one is not kept when faults are set", 0, x.best(0, 0));
        Checks.same("kept anew with the faults", 40, x.best(0, 1));
        for (int i = 1; i < 60; i++) {
            x.log(i, i == 59 ? 41 : 39, 0, 80, 0);
        }
        Checks.same("the last one of 60", 41, x.best(0, 0));
        Checks.badState("one more", () -> x.log(60, 79, 0, 80, 0));
        Checks.same("one more is not kept", 41, x.best(0, 0));
    }

    private static void foundAnew() {
        SailLog x = new SailLog();
        for (int i = 0; i < 60; i++) {
            x.log(i, 17 * i % 90 + 1, 0, 37 * i % 200, 53 * i % 360);
        }
        x.setFaults(1300, 5, -7);
        int speeds = 0;
        for (int row = 0; row < 19; row++) {
            for (int column = 0; column < 10; column++) {
                int best = x.best(row, column);
                Checks.same("field " + row + ", " + column, best, x.bestByLog(row, column));
                speeds += best > 0 ? 1 : 0;
            }
        }
        Checks.holds("many fields have a speed: " + speeds, speeds > 20);
        SailLog first = Logs.full(Logs.told(70, 0, 80, 0), Logs.told(60, 0, 80, 0),
                Logs.told(50, 0, 80, 0));
        Checks.same("the first one of 60 counts", 70, first.bestByLog(0, 0));
        SailLog last = Logs.full(Logs.told(50, 0, 80, 0), Logs.told(60, 0, 80, 0),
                Logs.told(70, 0, 80, 0));
        Checks.same("the last one of 60 counts", 70, last.bestByLog(0, 0));
        last.setFaults(500, 0, 0);
        Checks.same("with faults", 35, last.bestByLog(0, 1));
        Checks.same("not as before", 0, last.bestByLog(0, 0));
    }

    private static void rowsOf(Logs.OfField call) {
        SailLog x = Logs.one(50, 0, 60, 0);
        x.log(1, 30, 0, 0, 0);
        Checks.same("0", 50, call.answer(x, 0, 0));
        Checks.same("18", 30, call.answer(x, 18, 0));
        Checks.noEntry("-1", () -> call.answer(x, -1, 0));
        Checks.noEntry("19", () -> call.answer(x, 19, 0));
    }

    private static void columnsOf(Logs.OfField call) {
        SailLog x = Logs.one(50, 0, 60, 0);
        x.log(1, 30, 0, 600, 0);
        Checks.same("0", 50, call.answer(x, 0, 0));
        Checks.same("9", 30, call.answer(x, 0, 9));
        Checks.noEntry("-1", () -> call.answer(x, 0, -1));
        Checks.noEntry("10", () -> call.answer(x, 0, 10));
    }

    private static void speedsOf(Logs.OfField call) {
        Checks.same("the least", 1, call.answer(Logs.one(1, 0, 1, 0), 0, 0));
        Checks.same("the greatest told", 300, call.answer(Logs.one(300, 0, 300, 0), 0, 0));
        SailLog x = Logs.one(300, 0, 600, 180);
        x.setFaults(1500, 0, 0);
        Checks.same("the greatest", 450, call.answer(x, 18, 9));
        x.log(1, 200, 0, 600, 180);
        Checks.same("the greatest of two", 450, call.answer(x, 18, 9));
    }

    private static void noneThere(Logs.OfField call) {
        Checks.same("an empty log", Logs.NO_FIELD, Logs.fieldOf(new SailLog(), call));
        SailLog x = Logs.one(50, 0, 90, 0);
        Checks.same("all fields but 0, 1", 1, Logs.fieldOf(x, call));
        Checks.same("of no speed", Logs.NO_FIELD, Logs.fieldOf(Logs.one(0, 0, 50, 0), call));
    }

    private static void noSuchField(Logs.OfField call) {
        SailLog x = Logs.one(50, 0, 60, 0);
        for (int number : FAR_OUT) {
            Checks.noEntry("row " + number, () -> call.answer(x, number, 0));
            Checks.noEntry("column " + number, () -> call.answer(x, 0, number));
            Checks.noEntry("both " + number, () -> call.answer(x, number, number));
        }
        Checks.noEntry("no row, though a field is so far on", () -> call.answer(x, 19, -10));
        Checks.noEntry("no column, though a field is so far on", () -> call.answer(x, 1, 10));
        Checks.noEntry("no column, though a field is so far back", () -> call.answer(x, 1, -1));
        Checks.noEntry("an empty log", () -> call.answer(new SailLog(), 19, 9));
    }

    // ---- bestUp and bestDown

    private static final int[] IN_ROW_0 = {20, 70, 7};
    private static final int[] IN_ROW_8 = {20, 30, 45};
    private static final int[] IN_ROW_9 = {20, 20, 2};
    private static final int[] IN_ROW_17 = {20, 20, 174};
    private static final int[] IN_ROW_18 = {20, 10, 180};

    /** Speeds, strengths and felt angles at any heading. */
    private static SailLog logged(int[]... told) {
        SailLog x = new SailLog();
        for (int i = 0; i < told.length; i++) {
            x.log(i, told[i][0], 0, told[i][1], told[i][2]);
        }
        return x;
    }

    private static void rowsUp() {
        Checks.same("the row 0", 0, logged(IN_ROW_0).bestUp(1));
        Checks.same("the row 8", 8, logged(IN_ROW_8).bestUp(0));
        SailLog x = logged(IN_ROW_9);
        Checks.same("a speed in the row 9", 20, x.best(9, 0));
        Checks.same("not the row 9", SailLog.NONE, x.bestUp(0));
        SailLog y = logged(new int[] {1, 10, 80}, new int[] {150, 150, 12});
        Checks.same("a slow one in the row 8", 1, y.best(8, 0));
        Checks.same("a fast one in the row 9", 150, y.best(9, 0));
        Checks.same("though the row 9 is faster", 8, y.bestUp(0));
    }

    private static void greatestUp() {
        // The cosines of 5 and 25 are 996 and 905: 10 * 996 against 11 * 905.
        SailLog x = logged(new int[] {10, 10, 0}, new int[] {11, 20, 10});
        Checks.same("the faster one", 11, x.best(2, 0));
        Checks.same("9960 and 9955", 0, x.bestUp(0));
        x.log(2, 12, 0, 22, 10);
        Checks.same("a faster one", 12, x.best(2, 0));
        Checks.same("9960 and 10860", 2, x.bestUp(0));
        x.log(3, 12, 0, 12, 0);
        Checks.same("11952 and 10860", 0, x.bestUp(0));
    }

    private static void lowestUp() {
        // The cosines of 45 and 65 are 705 and 423: 50 * 423 is 30 * 705.
        int[] inRow4 = {30, 150, 35};
        int[] inRow6 = {50, 160, 45};
        SailLog x = logged(inRow4, inRow6);
        Checks.same("the row 4", 30, x.best(4, 3));
        Checks.same("the row 6", 50, x.best(6, 3));
        Checks.same("the lower one came first", 4, x.bestUp(3));
        Checks.same("the lower one came last", 4, logged(inRow6, inRow4).bestUp(3));
    }

    private static void columnsOfRows(Logs.OfEntry call, int felt, int row) {
        SailLog x = logged(new int[] {1, 5, felt}, new int[] {1, 500, felt});
        Checks.same("0", row, call.answer(x, 0));
        Checks.same("9", row, call.answer(x, 9));
        for (int column = 1; column < 9; column++) {
            Checks.same("no speed in " + column, SailLog.NONE, call.answer(x, column));
        }
        Checks.noEntry("-1", () -> call.answer(x, -1));
        Checks.noEntry("10", () -> call.answer(x, 10));
    }

    private static void rowOfUp() {
        int[][] inRows = {{20, 70, 7}, {20, 40, 5}, {20, 30, 7}, {20, 30, 11}, {20, 30, 15},
            {20, 30, 20}, {20, 30, 24}, {20, 30, 30}, {20, 30, 39}};
        for (int row = 0; row < 9; row++) {
            // The wind of the first one is of 50, those of the others are below 40.
            Checks.same("the row " + row, row, logged(inRows[row]).bestUp(row == 0 ? 1 : 0));
        }
    }

    private static void noneUp() {
        for (int column = 0; column < 10; column++) {
            Checks.same("an empty log", SailLog.NONE, new SailLog().bestUp(column));
        }
        Checks.same("a boat that lies still", SailLog.NONE, Logs.still(60).bestUp(2));
        Checks.same("a speed in another column", SailLog.NONE, logged(IN_ROW_0).bestUp(0));
        Checks.same("a speed down the wind", SailLog.NONE, logged(IN_ROW_18).bestUp(0));
        SailLog x = logged(new int[] {1, 60, 0});
        Checks.same("the least speed is one", 0, x.bestUp(1));
        x.setFaults(999, 0, 0);
        Checks.same("0.999 is none", SailLog.NONE, x.bestUp(1));
    }

    private static void noSuchColumn(Logs.OfEntry call) {
        SailLog x = logged(IN_ROW_0, IN_ROW_18);
        int[] others = {Integer.MIN_VALUE, -10, -1, 10, 11, 18, 100, Integer.MAX_VALUE};
        for (int column : others) {
            Checks.noEntry("column " + column, () -> call.answer(x, column));
            Checks.noEntry("column " + column + " of an empty log",
                    () -> call.answer(new SailLog(), column));
        }
    }

    private static void rowsDown() {
        Checks.same("the row 9", 9, logged(IN_ROW_9).bestDown(0));
        Checks.same("the row 18", 18, logged(IN_ROW_18).bestDown(0));
        SailLog x = logged(IN_ROW_8);
        Checks.same("a speed in the row 8", 20, x.best(8, 0));
        Checks.same("not the row 8", SailLog.NONE, x.bestDown(0));
        SailLog y = logged(new int[] {1, 10, 85}, new int[] {20, 30, 45});
        Checks.same("a slow one in the row 9", 1, y.best(9, 0));
        Checks.same("a fast one in the row 8", 20, y.best(8, 0));
        Checks.same("though the row 8 is faster", 9, y.bestDown(0));
    }

    private static void leastDown() {
        // The cosines of 115 and 125 are -423 and -573: 4 * -423 against 3 * -573.
        SailLog x = logged(new int[] {4, 10, 90}, new int[] {3, 10, 105});
        Checks.same("the faster one", 4, x.best(11, 0));
        Checks.same("-1692 and -1719", 12, x.bestDown(0));
        x.setFaults(1250, 0, 0);
        Checks.same("5 in the row 11", 5, x.best(11, 0));
        Checks.same("3 in the row 12", 3, x.best(12, 0));
        Checks.same("-2115 and -1719", 11, x.bestDown(0));
    }

    private static void lowestDown() {
        // The cosines of 175 and 180 are -996 and -1000: 250 * 996 is 249 * 1000.
        int[] inRow17 = {250, 120, 155};
        int[] inRow18 = {249, 120, 180};
        SailLog x = logged(inRow17, inRow18);
        Checks.same("the row 17", 250, x.best(17, 9));
        Checks.same("the row 18", 249, x.best(18, 9));
        Checks.same("the lower one came first", 17, x.bestDown(9));
        Checks.same("the lower one came last", 17, logged(inRow18, inRow17).bestDown(9));
        // The cosines of 115 and 135 are -423 and -705: 50 * 423 is 30 * 705.
        SailLog y = logged(new int[] {30, 110, 120}, new int[] {50, 110, 90});
        Checks.same("the row 13", 30, y.best(13, 3));
        Checks.same("the row 11", 50, y.best(11, 3));
        Checks.same("11 of 11 and 13", 11, y.bestDown(3));
    }

    private static void rowOfDown() {
        int[][] inRows = {{20, 20, 2}, {20, 20, 20}, {20, 20, 37}, {20, 20, 59}, {20, 20, 79},
            {20, 20, 102}, {20, 10, 51}, {20, 10, 21}, {20, 10, 10}, {20, 10, 180}};
        for (int i = 0; i < inRows.length; i++) {
            Checks.same("the row " + (9 + i), 9 + i, logged(inRows[i]).bestDown(0));
        }
    }

    private static void noneDown() {
        for (int column = 0; column < 10; column++) {
            Checks.same("an empty log", SailLog.NONE, new SailLog().bestDown(column));
        }
        Checks.same("a boat that lies still", SailLog.NONE, Logs.still(120).bestDown(2));
        Checks.same("a speed in another column", SailLog.NONE, logged(IN_ROW_18).bestDown(1));
        Checks.same("a speed up the wind", SailLog.NONE, logged(IN_ROW_0).bestDown(1));
        SailLog x = logged(new int[] {1, 0, 0});
        Checks.same("the least speed is one", 18, x.bestDown(0));
        x.setFaults(999, 0, 0);
        Checks.same("0.999 is none", SailLog.NONE, x.bestDown(0));
    }

    // ---- bestCourse

    /** It sails with the wind right astern alone: in the row 18 and the column 5. */
    private static SailLog astern() {
        return Logs.one(100, 0, 100, 180);
    }

    /** It sails with open angles of 0 to 9 alone: in the row 0 and the column 1. */
    private static SailLog ahead() {
        return Logs.one(50, 0, 100, 0);
    }

    private static void allHeadings() {
        SailLog x = astern();
        for (int heading = 0; heading < 360; heading++) {
            Checks.same("heading " + heading, heading,
                    x.bestCourse(5, (heading + 180) % 360, heading));
        }
    }

    private static void openAngleToTheWind() {
        SailLog x = ahead();
        Checks.same("0 of a wind from 0", 0, x.bestCourse(1, 0, 0));
        Checks.same("9 of a wind from 0", 9, x.bestCourse(1, 0, 30));
        Checks.same("351 of a wind from 0", 351, x.bestCourse(1, 0, 330));
        Checks.same("8 of a wind from 359", 8, x.bestCourse(1, 359, 30));
        Checks.same("350 of a wind from 359", 350, x.bestCourse(1, 359, 330));
        Checks.same("0 of a wind from 351", 0, x.bestCourse(1, 351, 30));
        Checks.same("359 of a wind from 350", 359, x.bestCourse(1, 350, 30));
        Checks.same("0 of a wind from 9", 0, x.bestCourse(1, 9, 330));
        Checks.same("1 of a wind from 10", 1, x.bestCourse(1, 10, 330));
        // The row 9 is 90 to 99, and 261 to 270 on the other side.
        SailLog abeam = logged(IN_ROW_9);
        Checks.same("99 of a wind from 0", 99, abeam.bestCourse(0, 0, 120));
        Checks.same("90 of a wind from 0", 90, abeam.bestCourse(0, 0, 60));
        Checks.same("261 of a wind from 0", 261, abeam.bestCourse(0, 0, 240));
        Checks.same("270 of a wind from 0", 270, abeam.bestCourse(0, 0, 300));
        SailLog aft = logged(IN_ROW_17);
        Checks.same("the row 17", 20, aft.best(17, 0));
        Checks.same("179 of a wind from 0", 179, aft.bestCourse(0, 0, 179));
        Checks.same("181 of a wind from 0", 181, aft.bestCourse(0, 0, 181));
        // 178, 179, 181 and 182 are alike: the cosines of 1 and 2 are 999 both.
        Checks.same("180 is in another row", 178, aft.bestCourse(0, 0, 180));
        Checks.same("170 of a wind from 0", 170, aft.bestCourse(0, 0, 150));
        Checks.same("the row 17 of a wind from 200", 19, aft.bestCourse(0, 200, 19));
        // 20 * 1000 at 90, 60 * 984 at 100.
        SailLog both = logged(IN_ROW_9, new int[] {60, 60, 20});
        Checks.same("a faster field", 60, both.best(10, 0));
        Checks.same("100 is better than 99", 100, both.bestCourse(0, 0, 90));
    }

    private static void greatestTowardsTheMark() {
        // The rows 9 and 18 of the column 0: 20 and 20.
        SailLog x = logged(IN_ROW_9, IN_ROW_18);
        Checks.same("a mark at 180", 180, x.bestCourse(0, 0, 180));
        Checks.same("a mark at 110", 99, x.bestCourse(0, 0, 110));
        // The cosines of 40 and 41 are 764 and 753.
        Checks.same("a mark at 139", 99, x.bestCourse(0, 0, 139));
        Checks.same("a mark at 140", 180, x.bestCourse(0, 0, 140));
        SailLog y = logged(IN_ROW_9, new int[] {21, 11, 180});
        Checks.same("a faster one", 21, y.best(18, 0));
        // 20 * 775 (39 off) against 21 * 741 (42 off); 20 * 786 against 21 * 730.
        Checks.same("15500 and 15561", 180, y.bestCourse(0, 0, 138));
        Checks.same("15720 and 15330", 99, y.bestCourse(0, 0, 137));
        Checks.same("not the fastest one", 99, y.bestCourse(0, 0, 99));
    }

    private static void lowestHeading() {
        SailLog x = ahead();
        // The cosines of 1 and 2 are 999 both.
        Checks.same("108 and 109", 108, x.bestCourse(1, 100, 110));
        Checks.same("91 and 92", 91, x.bestCourse(1, 100, 90));
        Checks.same("358 and 359", 358, x.bestCourse(1, 350, 0));
        Checks.same("0 and 359", 0, x.bestCourse(1, 351, 1));
        Checks.same("0 and 1", 0, x.bestCourse(1, 9, 359));
        Checks.same("1 and 2", 1, x.bestCourse(1, 10, 0));
        SailLog close = Logs.one(30, 0, 150, 35);
        Checks.same("40 and 320", 40, close.bestCourse(3, 0, 0));
        Checks.same("310 and 30", 30, close.bestCourse(3, 350, 350));
        Checks.same("319 and 39", 39, close.bestCourse(3, 359, 359));
    }

    private static void columnsOfCourses() {
        SailLog x = logged(new int[] {1, 5, 180}, new int[] {1, 500, 0});
        Checks.same("0", 180, x.bestCourse(0, 0, 180));
        Checks.same("9", 0, x.bestCourse(9, 0, 0));
        for (int column = 1; column < 9; column++) {
            Checks.same("no speed in " + column, SailLog.NONE, x.bestCourse(column, 0, 180));
        }
        Checks.noEntry("-1", () -> x.bestCourse(-1, 0, 0));
        Checks.noEntry("10", () -> x.bestCourse(10, 0, 0));
    }

    private static void fromOfCourses() {
        SailLog x = astern();
        Checks.same("0", 180, x.bestCourse(5, 0, 180));
        Checks.same("359", 179, x.bestCourse(5, 359, 180));
        Checks.outOfRange("-1", () -> x.bestCourse(5, -1, 180));
        Checks.outOfRange("360", () -> x.bestCourse(5, 360, 180));
    }

    private static void bearingOfCourses() {
        SailLog x = ahead();
        Checks.same("0", 0, x.bestCourse(1, 0, 0));
        Checks.same("359", 359, x.bestCourse(1, 0, 359));
        Checks.outOfRange("-1", () -> x.bestCourse(1, 0, -1));
        Checks.outOfRange("360", () -> x.bestCourse(1, 0, 360));
    }

    private static void returnsTheHeading() {
        SailLog x = ahead();
        Checks.same("0 is a heading", 0, x.bestCourse(1, 0, 0));
        Checks.same("the greatest", 359, x.bestCourse(1, 359, 359));
        Checks.same("neither the angle nor the bearing", 105, x.bestCourse(1, 96, 150));
    }

    private static void noneComesNearer() {
        SailLog x = astern();
        // A heading of 0 alone: the cosine of 89 is 17, that of 90 is 0, that of 91 is -17.
        Checks.same("89 off", 0, x.bestCourse(5, 180, 89));
        Checks.same("90 off", SailLog.NONE, x.bestCourse(5, 180, 90));
        Checks.same("91 off", SailLog.NONE, x.bestCourse(5, 180, 91));
        Checks.same("180 off", SailLog.NONE, x.bestCourse(5, 180, 180));
        Checks.same("269 off", SailLog.NONE, x.bestCourse(5, 180, 269));
        Checks.same("270 off", SailLog.NONE, x.bestCourse(5, 180, 270));
        Checks.same("271 off", 0, x.bestCourse(5, 180, 271));
        Checks.same("an empty log", SailLog.NONE, new SailLog().bestCourse(5, 180, 0));
        Checks.same("a boat that lies still", SailLog.NONE, Logs.still(0).bestCourse(2, 0, 0));
        SailLog slowest = Logs.one(1, 0, 1, 180);
        Checks.same("the least speed, 89 off", 0, slowest.bestCourse(0, 180, 89));
        slowest.setFaults(999, 0, 0);
        Checks.same("no speed", SailLog.NONE, slowest.bestCourse(0, 180, 0));
    }

    private static void courseOutOfRange() {
        SailLog x = ahead();
        int[] farOut = {Integer.MIN_VALUE, -360, -1, 360, 361, 720, Integer.MAX_VALUE};
        for (int number : farOut) {
            Checks.outOfRange("from " + number, () -> x.bestCourse(1, number, 0));
            Checks.outOfRange("bearing " + number, () -> x.bestCourse(1, 0, number));
            Checks.outOfRange("both " + number, () -> x.bestCourse(1, number, number));
            Checks.outOfRange("of an empty log", () -> new SailLog().bestCourse(9, number, 0));
        }
    }
}
