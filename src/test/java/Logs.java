/** Logs that tests begin with, and what tests ask of any log. */
final class Logs {
    /** A call that takes an entry. */
    interface OfEntry {
        int answer(SailLog log, int entry);
    }

    /** A call that takes a row and a column. */
    interface OfField {
        int answer(SailLog log, int row, int column);
    }

    /** No field has a speed. */
    static final int NO_FIELD = -1;

    private Logs() {
    }

    static SailLog one(int speed, int heading, int strength, int angle) {
        SailLog x = new SailLog();
        x.log(0, speed, heading, strength, angle);
        return x;
    }

    /** Boats that lie still, one each minute: a wind of 10 knots blows as it is felt. */
    static SailLog still(int... angles) {
        SailLog x = new SailLog();
        for (int i = 0; i < angles.length; i++) {
            x.log(i, 0, 0, 100, angles[i]);
        }
        return x;
    }

    /** A full log, an entry each minute: one that is first, 58 alike and one that is last. */
    static SailLog full(int[] first, int[] others, int[] last) {
        SailLog x = new SailLog();
        for (int i = 0; i < 60; i++) {
            int[] told = i == 0 ? first : i == 59 ? last : others;
            x.log(i, told[0], told[1], told[2], told[3]);
        }
        return x;
    }

    static int[] told(int speed, int heading, int strength, int angle) {
        return new int[] {speed, heading, strength, angle};
    }

    /** The one field with a speed, as 10 * row + column; fields of several are told as a fault. */
    static int fieldOf(SailLog x, OfField call) {
        int found = NO_FIELD;
        for (int row = 0; row < 19; row++) {
            for (int column = 0; column < 10; column++) {
                if (call.answer(x, row, column) != 0) {
                    Checks.holds("a speed in one field alone", found == NO_FIELD);
                    found = 10 * row + column;
                }
            }
        }
        return found;
    }

    /** How far a boat comes in 100 minutes at 6 knots: the sine of its heading. */
    static int eastOf(int heading) {
        return sailed(heading).east(1);
    }

    /** How far a boat comes in 100 minutes at 6 knots: the cosine of its heading. */
    static int northOf(int heading) {
        return sailed(heading).north(1);
    }

    private static SailLog sailed(int heading) {
        SailLog x = one(60, heading, 0, 0);
        x.log(100, 0, 0, 0, 0);
        return x;
    }

    static void refusesOtherEntries(OfEntry call) {
        SailLog empty = new SailLog();
        Checks.noEntry("0 of an empty log", () -> call.answer(empty, 0));
        Checks.noEntry("-1 of an empty log", () -> call.answer(empty, -1));
        SailLog two = still(60, 300);
        int[] others = {-1, 2, 3, 59, 60, Integer.MIN_VALUE, Integer.MAX_VALUE};
        for (int entry : others) {
            Checks.noEntry(entry + " of two", () -> call.answer(two, entry));
        }
        int[] alike = told(10, 0, 100, 90);
        SailLog full = full(alike, alike, alike);
        Checks.noEntry("60 of a full log", () -> call.answer(full, 60));
        Checks.noEntry("-1 of a full log", () -> call.answer(full, -1));
    }
}
