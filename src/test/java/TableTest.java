/** Promises 12 to 16: best, bestByLog, bestUp, bestDown, bestCourse. */
final class TableTest {
    private TableTest() {
    }

    static void run() {
        columns();
        rows();
        greatestOfAField();
        faultsLearnTheTableAnew();
        noSuchFields();
        upTheWind();
        downTheWind();
        courses();
        coursesOfSeveralTheLowest();
        courseRanges();
    }

    private static SailLog one(int speed, int strength, int angle) {
        SailLog x = new SailLog();
        x.log(0, speed, 0, strength, angle);
        return x;
    }

    /** The entry shows in its field, and in no other. */
    private static void isIn(String what, int row, int column, int due, SailLog x) {
        for (int r = 0; r < 19; r++) {
            for (int c = 0; c < 10; c++) {
                int speed = r == row && c == column ? due : 0;
                Checks.same(what + ": best " + r + ", " + c, speed, x.best(r, c));
                Checks.same(what + ": bestByLog " + r + ", " + c, speed, x.bestByLog(r, c));
            }
        }
    }

    private static void columns() {
        isIn("strength 0", 0, 0, 50, one(50, 50, 0));
        isIn("strength 39", 0, 0, 50, one(50, 89, 0));
        isIn("strength 40", 0, 1, 50, one(50, 90, 0));
        isIn("strength 79", 0, 1, 50, one(50, 129, 0));
        isIn("strength 80", 0, 2, 50, one(50, 130, 0));
        isIn("strength 359", 0, 8, 50, one(50, 409, 0));
        isIn("strength 360", 0, 9, 50, one(50, 410, 0));
        isIn("strength 400", 0, 9, 50, one(50, 450, 0));
        isIn("strength 900", 18, 9, 300, one(300, 600, 180));
        isIn("no speed", 18, 9, 0, one(0, 600, 180));
    }

    private static void rows() {
        isIn("angle 9", 0, 1, 20, one(20, 70, 7));
        isIn("angle 351", 0, 1, 20, one(20, 70, 353));
        isIn("angle 11", 1, 0, 20, one(20, 40, 5));
        isIn("angle 349", 1, 0, 20, one(20, 40, 355));
        isIn("angle 29", 2, 0, 10, one(10, 20, 15));
        isIn("angle 30", 3, 0, 10, one(10, 20, 16));
        isIn("angle 331", 2, 0, 20, one(20, 30, 350));
        isIn("angle 330", 3, 0, 20, one(20, 30, 349));
        isIn("angle 119", 11, 0, 20, one(20, 20, 56));
        isIn("angle 120", 12, 0, 20, one(20, 20, 59));
        isIn("angle 178", 17, 0, 20, one(20, 20, 174));
        isIn("angle 180", 18, 1, 20, one(20, 20, 180));
        isIn("angle 182", 17, 0, 20, one(20, 20, 184));
    }

    private static void greatestOfAField() {
        SailLog x = one(50, 60, 0);
        x.log(1, 70, 0, 90, 0);
        x.log(2, 60, 0, 75, 0);
        isIn("the greatest", 0, 0, 70, x);
        x.log(3, 80, 0, 200, 0);
        Checks.same("another field", 80, x.best(0, 3));
        Checks.same("the first field", 70, x.best(0, 0));
    }

    private static void faultsLearnTheTableAnew() {
        SailLog x = one(50, 90, 0);
        x.log(1, 40, 0, 90, 0);
        x.setFaults(1200, 0, 0);
        // 60 and 48: winds of 30 and 42.
        Checks.same("the faster one", 60, x.best(0, 0));
        Checks.same("the slower one", 48, x.best(0, 1));
        x.setFaults(500, 0, 0);
        // 25 and 20: winds of 65 and 70.
        isIn("slower than before", 0, 1, 25, x);
        SailLog y = one(50, 90, 0);
        y.setFaults(1000, 20, 0);
        isIn("the compass changes no field", 0, 1, 50, y);
        x.setFaults(1000, 20, 0);
        x.log(2, 51, 0, 92, 0);
        Checks.same("learned after the faults", 51, x.best(0, 1));
    }

    private static void noSuchFields() {
        SailLog x = one(50, 90, 0);
        int[] rows = {-1, 19, 0, 0, 19, 18, Integer.MAX_VALUE, Integer.MIN_VALUE, 0, 0};
        int[] columns = {0, 0, -1, 10, 10, 10, 0, 0, Integer.MAX_VALUE, Integer.MIN_VALUE};
        for (int i = 0; i < rows.length; i++) {
            int row = rows[i];
            int column = columns[i];
            Checks.noEntry("best " + row + ", " + column, () -> x.best(row, column));
            Checks.noEntry("bestByLog " + row + ", " + column, () -> x.bestByLog(row, column));
            if (row == 0) {
                Checks.noEntry("bestUp " + column, () -> x.bestUp(column));
                Checks.noEntry("bestDown " + column, () -> x.bestDown(column));
                Checks.noEntry("bestCourse " + column, () -> x.bestCourse(column, 0, 0));
            }
        }
    }

    private static void upTheWind() {
        // The cosines of 45 and 65 are 705 and 423: 50 * 423 is 30 * 705.
        SailLog x = one(50, 160, 45);
        Checks.same("row of the first", 50, x.best(6, 3));
        Checks.same("up with one row", 6, x.bestUp(3));
        x.log(1, 30, 0, 150, 35);
        Checks.same("row of the second", 30, x.best(4, 3));
        Checks.same("up, of several the lowest", 4, x.bestUp(3));
        x.setFaults(1020, 0, 0);
        // 51 * 423 is more than 30 * 705.
        Checks.same("up with faults", 6, x.bestUp(3));
        Checks.same("up in another column", SailLog.NONE, x.bestUp(4));
        Checks.same("down there", SailLog.NONE, x.bestDown(3));
        Checks.same("up with the row 0", 0, one(70, 190, 0).bestUp(3));
        // The cosine of 85 is above 0.
        Checks.same("up with the row 8", 8, one(30, 130, 70).bestUp(3));
        Checks.same("no way up with the row 9", SailLog.NONE, one(30, 120, 85).bestUp(3));
        Checks.same("no speed up", SailLog.NONE, one(0, 130, 0).bestUp(3));
    }

    private static void downTheWind() {
        // The cosines of 115 and 135 are -423 and -705.
        SailLog x = one(30, 110, 120);
        Checks.same("row of the first", 30, x.best(13, 3));
        Checks.same("down with one row", 13, x.bestDown(3));
        x.log(1, 50, 0, 110, 90);
        Checks.same("row of the second", 50, x.best(11, 3));
        Checks.same("down, of several the lowest", 11, x.bestDown(3));
        Checks.same("up there", SailLog.NONE, x.bestUp(3));
        Checks.same("down with the row 9", 9, one(30, 120, 85).bestDown(3));
        Checks.same("no way down with the row 8", SailLog.NONE, one(30, 130, 70).bestDown(3));
        Checks.same("no speed down", SailLog.NONE, one(0, 130, 180).bestDown(3));
        // The middle of the row 18 is 180, its cosine -1000; that of 175 is -996.
        SailLog y = one(240, 130, 155);
        Checks.same("down with the row 17", 17, y.bestDown(9));
        y.log(1, 240, 0, 120, 180);
        Checks.same("down with the row 18", 18, y.bestDown(9));
        SailLog z = one(249, 120, 180);
        z.log(1, 250, 0, 120, 155);
        Checks.same("rows of both", 499, z.best(17, 9) + z.best(18, 9));
        Checks.same("down, 17 and 18 are alike", 17, z.bestDown(9));
    }

    private static void courses() {
        // The row 9 alone has a speed: open angles of 90 to 99.
        SailLog x = one(30, 120, 85);
        Checks.same("the field", 30, x.best(9, 3));
        Checks.same("abeam of the wind", 90, x.bestCourse(3, 0, 90));
        Checks.same("to the other side", 270, x.bestCourse(3, 0, 270));
        Checks.same("down the wind", 99, x.bestCourse(3, 0, 180));
        // All headings of the row are 90 to 99 off a mark up the wind.
        Checks.same("up the wind", SailLog.NONE, x.bestCourse(3, 0, 0));
        Checks.same("a little off the wind", 91, x.bestCourse(3, 1, 2));
        Checks.same("another column", SailLog.NONE, x.bestCourse(4, 0, 90));
        Checks.same("the wind turned", 10, x.bestCourse(3, 100, 10));
        Checks.same("over north", 355, x.bestCourse(3, 265, 355));
        SailLog astern = one(100, 100, 180);
        Checks.same("the row 18", 0, astern.bestCourse(5, 180, 0));
        Checks.same("the row 18 alone", 0, astern.bestCourse(5, 180, 89));
        Checks.same("the row 18 leads nowhere", SailLog.NONE, astern.bestCourse(5, 180, 90));
        Checks.same("the row 18 leads away", SailLog.NONE, astern.bestCourse(5, 0, 0));
    }

    private static void coursesOfSeveralTheLowest() {
        SailLog x = one(30, 150, 35);
        Checks.same("the field", 30, x.best(4, 3));
        // 40 and 320 come up the wind alike.
        Checks.same("up the wind", 40, x.bestCourse(3, 0, 0));
        // 60 and 140: the wind from 100.
        Checks.same("up the wind from 100", 60, x.bestCourse(3, 100, 100));
        // 310 and 30: the lowest heading is not the one to port of the wind.
        Checks.same("up the wind from 350", 30, x.bestCourse(3, 350, 350));
    }

    private static void courseRanges() {
        SailLog x = one(30, 150, 35);
        Checks.outOfRange("from -1", () -> x.bestCourse(0, -1, 0));
        Checks.outOfRange("from 360", () -> x.bestCourse(0, 360, 0));
        Checks.outOfRange("bearing -1", () -> x.bestCourse(0, 0, -1));
        Checks.outOfRange("bearing 360", () -> x.bestCourse(0, 0, 360));
        Checks.outOfRange("greatest from", () -> x.bestCourse(0, Integer.MAX_VALUE, 0));
        Checks.outOfRange("least bearing", () -> x.bestCourse(0, 0, Integer.MIN_VALUE));
        Checks.noEntry("column before from", () -> x.bestCourse(10, 360, 0));
        Checks.noEntry("column before bearing", () -> x.bestCourse(-1, 0, -1));
        Checks.same("most of all", SailLog.NONE, x.bestCourse(9, 359, 359));
    }
}
