/**
 * A log of sailing: what the instruments told, the wind as it is, a table of best speeds, turns
 * with what they cost, and places by reckoning. DOC.md says what each call answers.
 */
public final class SailLog {
    public static final int NONE = -1;
    public static final int NEITHER = 0, STARBOARD = 1, PORT = 2;
    public static final int NO_TURN = 0, TACK = 1, GYBE = 2;

    private static final int QUARTER_TURN = 90;
    private static final int HALF_TURN = 180;
    private static final int FULL_TURN = 360;

    private static final int MOST_ENTRIES = 60;
    private static final int MINUTES_OF_HOUR = 60;
    private static final int HOURS = 24;
    private static final int LAST_MINUTE = HOURS * MINUTES_OF_HOUR - 1;
    private static final int MOST_SPEED = 300;
    private static final int MOST_STRENGTH = 600;
    private static final int MOST_DRIFT = 100;

    private static final int WHOLE = 1000;
    private static final int LEAST_FACTOR = 500;
    private static final int MOST_FACTOR = 1500;
    private static final int MOST_FAULT = 20;

    private static final int ROWS = 19;
    private static final int ROWS_UP = 9;
    private static final int COLUMNS = 10;
    private static final int DEGREES_OF_ROW = 10;
    private static final int TENTHS_OF_COLUMN = 40;

    private static final int ENTRIES_THAT_A_TURN_SLOWS = 3;
    private static final int HUNDREDTH_OF_MILE = 6000;
    private static final int VANE_NOT_SHOWN = -1000;

    private final Circle circle;
    private final Entry[] logged;
    private final BestSpeeds bestSpeeds;
    private final int[] tideDirections;
    private final int[] tideDrifts;
    private int count;
    private int factor;
    private int compass;
    private int vane;

    public SailLog() {
        circle = new Circle();
        logged = new Entry[MOST_ENTRIES];
        for (int i = 0; i < MOST_ENTRIES; i++) {
            logged[i] = new Entry();
        }
        bestSpeeds = new BestSpeeds();
        tideDirections = new int[HOURS];
        tideDrifts = new int[HOURS];
        factor = WHOLE;
    }

    // ---- the log

    public int log(int minute, int speed, int heading, int strength, int angle)
            throws IllegalArgumentException, IllegalStateException {
        checkArgument(isWithin(minute, 0, LAST_MINUTE));
        checkArgument(isWithin(speed, 0, MOST_SPEED));
        checkArgument(isDirection(heading));
        checkArgument(isWithin(strength, 0, MOST_STRENGTH));
        checkArgument(isDirection(angle));
        if (count >= MOST_ENTRIES) {
            throw new IllegalStateException("the log is full");
        }
        if (count > 0 && minute <= logged[count - 1].minute) {
            throw new IllegalStateException("the minute is not later than the latest one");
        }
        Entry entry = logged[count];
        entry.minute = minute;
        entry.toldSpeed = speed;
        entry.toldHeading = heading;
        entry.toldStrength = strength;
        entry.toldAngle = angle;
        reckon(entry);
        bestSpeeds.learn(entry);
        count++;
        return count - 1;
    }

    public int setFaults(int factor, int compass, int vane) throws IllegalArgumentException {
        checkArgument(isWithin(factor, LEAST_FACTOR, MOST_FACTOR));
        checkArgument(isWithin(compass, -MOST_FAULT, MOST_FAULT));
        checkArgument(isWithin(vane, -MOST_FAULT, MOST_FAULT));
        int before = this.factor;
        this.factor = factor;
        this.compass = compass;
        this.vane = vane;
        reckonAll();
        return before;
    }

    public int setTide(int hour, int direction, int drift)
            throws IndexOutOfBoundsException, IllegalArgumentException {
        if (!isWithin(hour, 0, HOURS - 1)) {
            throw new IndexOutOfBoundsException("there is no such hour");
        }
        checkArgument(isDirection(direction));
        checkArgument(isWithin(drift, 0, MOST_DRIFT));
        int before = tideDrifts[hour];
        tideDirections[hour] = direction;
        tideDrifts[hour] = drift;
        return before;
    }

    public int entries() {
        return count;
    }

    public int sine(int angle) {
        return circle.sineOf(angle);
    }

    // ---- the wind

    public int speed(int entry) throws IndexOutOfBoundsException {
        checkEntry(entry);
        return logged[entry].trueSpeed;
    }

    public int strength(int entry) throws IndexOutOfBoundsException {
        checkEntry(entry);
        return logged[entry].windStrength;
    }

    public int angle(int entry) throws IndexOutOfBoundsException {
        checkEntry(entry);
        return logged[entry].windAngle;
    }

    public int from(int entry) throws IndexOutOfBoundsException {
        checkEntry(entry);
        return turned(logged[entry].trueHeading, logged[entry].windAngle);
    }

    public int side(int entry) throws IndexOutOfBoundsException {
        checkEntry(entry);
        return logged[entry].windSide();
    }

    // ---- the table

    public int best(int row, int column) throws IndexOutOfBoundsException {
        checkField(row, column);
        return bestSpeeds.kept(row, column);
    }

    public int bestByLog(int row, int column) throws IndexOutOfBoundsException {
        checkField(row, column);
        int greatest = 0;
        for (int i = 0; i < count; i++) {
            Entry entry = logged[i];
            if (entry.row() == row && entry.column() == column) {
                greatest = Math.max(greatest, entry.trueSpeed);
            }
        }
        return greatest;
    }

    public int bestUp(int column) throws IndexOutOfBoundsException {
        checkColumn(column);
        return bestRow(column, 0, ROWS_UP - 1, 1);
    }

    public int bestDown(int column) throws IndexOutOfBoundsException {
        checkColumn(column);
        return bestRow(column, ROWS_UP, ROWS - 1, -1);
    }

    public int bestCourse(int column, int from, int bearing)
            throws IndexOutOfBoundsException, IllegalArgumentException {
        checkColumn(column);
        checkArgument(isDirection(from));
        checkArgument(isDirection(bearing));
        int course = NONE;
        int greatest = 0;
        for (int heading = 0; heading < FULL_TURN; heading++) {
            int row = rowOf(openAngleOf(turned(from, -heading)));
            int nearer = bestSpeeds.kept(row, column) * circle.cosineOf(heading - bearing);
            if (nearer > greatest) {
                greatest = nearer;
                course = heading;
            }
        }
        return course;
    }

    // ---- turns

    public int turn(int entry) throws IndexOutOfBoundsException {
        checkEntry(entry);
        return kindOf(entry);
    }

    public int cost(int entry) throws IndexOutOfBoundsException {
        checkEntry(entry);
        return lossOf(entry);
    }

    public int costs(int kind) throws IllegalArgumentException {
        checkArgument(kind == TACK || kind == GYBE);
        int sum = 0;
        for (int i = 0; i < count; i++) {
            if (kindOf(i) == kind) {
                sum += lossOf(i);
            }
        }
        return sum;
    }

    // ---- places

    public int east(int entry) throws IndexOutOfBoundsException {
        checkEntry(entry);
        return distance(entry, 0);
    }

    public int north(int entry) throws IndexOutOfBoundsException {
        checkEntry(entry);
        return distance(entry, QUARTER_TURN);
    }

    public int vaneShown() {
        int port = meanOpenAngle(PORT);
        int starboard = meanOpenAngle(STARBOARD);
        if (port == NONE || starboard == NONE) {
            return VANE_NOT_SHOWN;
        }
        return Math.floorDiv(port - starboard, 2);
    }

    // ---- arguments

    private static boolean isWithin(int value, int least, int most) {
        return value >= least && value <= most;
    }

    private static boolean isDirection(int value) {
        return isWithin(value, 0, FULL_TURN - 1);
    }

    private static void checkArgument(boolean inRange) throws IllegalArgumentException {
        if (!inRange) {
            throw new IllegalArgumentException("an argument is out of range");
        }
    }

    private void checkEntry(int entry) throws IndexOutOfBoundsException {
        if (!isWithin(entry, 0, count - 1)) {
            throw new IndexOutOfBoundsException("there is no such entry");
        }
    }

    private static void checkField(int row, int column) throws IndexOutOfBoundsException {
        if (!isWithin(row, 0, ROWS - 1)) {
            throw new IndexOutOfBoundsException("there is no such row");
        }
        checkColumn(column);
    }

    private static void checkColumn(int column) throws IndexOutOfBoundsException {
        if (!isWithin(column, 0, COLUMNS - 1)) {
            throw new IndexOutOfBoundsException("there is no such column");
        }
    }

    // ---- angles and fields

    private static int turned(int angle, int by) {
        return Math.floorMod(angle + by, FULL_TURN);
    }

    private static int openAngleOf(int angle) {
        return Math.min(angle, FULL_TURN - angle);
    }

    private static int rowOf(int openAngle) {
        return openAngle / DEGREES_OF_ROW;
    }

    private static int middleOf(int row) {
        // The row 18 holds the one angle 180.
        return Math.min(row * DEGREES_OF_ROW + DEGREES_OF_ROW / 2, HALF_TURN);
    }

    /** The way is 1 up the wind and -1 down it. */
    private int bestRow(int column, int first, int last, int way) {
        int best = NONE;
        int greatest = 0;
        for (int row = first; row <= last; row++) {
            int gained = way * bestSpeeds.kept(row, column) * circle.cosineOf(middleOf(row));
            if (gained > greatest) {
                greatest = gained;
                best = row;
            }
        }
        return best;
    }

    // ---- what is true with the faults

    private void reckonAll() {
        bestSpeeds.forget();
        for (int i = 0; i < count; i++) {
            reckon(logged[i]);
            bestSpeeds.learn(logged[i]);
        }
    }

    private void reckon(Entry entry) {
        entry.trueSpeed = entry.toldSpeed * factor / WHOLE;
        entry.trueHeading = turned(entry.toldHeading, compass);
        int felt = turned(entry.toldAngle, vane);
        long ahead = (long) entry.toldStrength * circle.cosineOf(felt)
                - (long) WHOLE * entry.trueSpeed;
        long across = (long) entry.toldStrength * circle.sineOf(felt);
        entry.windStrength = (int) (rootOf(ahead * ahead + across * across) / WHOLE);
        entry.windAngle = circle.angleOf(ahead, across);
    }

    private static long rootOf(long square) {
        long root = 0;
        // No wind has a root of 2 to the 21st (ahead is 1,050,000 at most, across 600,000).
        for (int place = 20; place >= 0; place--) {
            long tried = root + (1L << place);
            if (tried * tried <= square) {
                root = tried;
            }
        }
        return root;
    }

    // ---- turns and places by the entries

    private int kindOf(int number) {
        if (number == 0) {
            return NO_TURN;
        }
        Entry before = logged[number - 1];
        Entry entry = logged[number];
        int side = entry.windSide();
        int sideBefore = before.windSide();
        if (side == NEITHER || sideBefore == NEITHER || side == sideBefore) {
            return NO_TURN;
        }
        return before.openAngle() + entry.openAngle() < HALF_TURN ? TACK : GYBE;
    }

    private int lossOf(int number) {
        if (kindOf(number) == NO_TURN) {
            return 0;
        }
        int speedBefore = logged[number - 1].trueSpeed;
        int end = Math.min(number + ENTRIES_THAT_A_TURN_SLOWS, count);
        int sum = 0;
        for (int i = number; i < end; i++) {
            int slower = Math.max(speedBefore - logged[i].trueSpeed, 0);
            sum += slower * (logged[i].minute - logged[i - 1].minute);
        }
        return sum;
    }

    /** How far the entry lies along sines of directions that are turned on: 0 east, 90 north. */
    private int distance(int number, int turnedOn) {
        long sum = 0;
        for (int i = 0; i < number; i++) {
            Entry leg = logged[i];
            int hour = leg.minute / MINUTES_OF_HOUR;
            long boat = (long) leg.trueSpeed * circle.sineOf(leg.trueHeading + turnedOn);
            long tide = (long) tideDrifts[hour] * circle.sineOf(tideDirections[hour] + turnedOn);
            sum += (boat + tide) * (logged[i + 1].minute - leg.minute);
        }
        return (int) Math.floorDiv(sum, (long) HUNDREDTH_OF_MILE);
    }

    private int meanOpenAngle(int side) {
        int sum = 0;
        int there = 0;
        for (int i = 0; i < count; i++) {
            if (logged[i].windSide() == side) {
                sum += logged[i].openAngle();
                there++;
            }
        }
        return there == 0 ? NONE : sum / there;
    }

    /** What the instruments told at a minute, and what is true of it with the faults. */
    private static final class Entry {
        int minute;
        int toldSpeed;
        int toldHeading;
        int toldStrength;
        int toldAngle;
        int trueSpeed;
        int trueHeading;
        int windStrength;
        int windAngle;

        int openAngle() {
            return openAngleOf(windAngle);
        }

        int windSide() {
            if (windAngle == 0 || windAngle == HALF_TURN) {
                return NEITHER;
            }
            return windAngle < HALF_TURN ? STARBOARD : PORT;
        }

        int row() {
            return rowOf(openAngle());
        }

        int column() {
            return Math.min(windStrength / TENTHS_OF_COLUMN, COLUMNS - 1);
        }
    }

    /** The table: for each field the greatest true speed that it was taught. */
    private static final class BestSpeeds {
        private final int[] fields = new int[ROWS * COLUMNS];

        void forget() {
            for (int i = 0; i < fields.length; i++) {
                fields[i] = 0;
            }
        }

        void learn(Entry entry) {
            int field = entry.row() * COLUMNS + entry.column();
            fields[field] = Math.max(fields[field], entry.trueSpeed);
        }

        int kept(int row, int column) {
            return fields[row * COLUMNS + column];
        }
    }

    /** Sines, kept once because a single wind asks for hundreds of them. */
    private static final class Circle {
        /** A quarter more than a turn: a cosine is the sine a quarter on. */
        private final int[] sines = new int[FULL_TURN + QUARTER_TURN];

        Circle() {
            for (int angle = 0; angle < HALF_TURN; angle++) {
                int arch = angle * (HALF_TURN - angle);
                // The arch is 8100 at most, so that the divisor is never 0.
                int sine = 4000 * arch / (40500 - arch);
                sines[angle] = sine;
                sines[angle + HALF_TURN] = -sine;
            }
            for (int angle = 0; angle < QUARTER_TURN; angle++) {
                sines[angle + FULL_TURN] = sines[angle];
            }
        }

        int sineOf(int angle) {
            return sines[Math.floorMod(angle, FULL_TURN)];
        }

        int cosineOf(int angle) {
            return sines[Math.floorMod(angle, FULL_TURN) + QUARTER_TURN];
        }

        /** The angle along which the vector reaches farthest, of several the least. */
        int angleOf(long ahead, long across) {
            // Sines differ from quarter to quarter in signs alone: no angle outside the vector's
            // own quarter reaches farther, and on an axis only the axis itself reaches so far.
            int first = quarterOf(ahead, across) * QUARTER_TURN;
            int found = 0;
            // Within its own quarter a vector reaches 0 at least.
            long farthest = -1;
            for (int step = 0; step <= QUARTER_TURN; step++) {
                int angle = (first + step) % FULL_TURN;
                long reached = ahead * sines[angle + QUARTER_TURN] + across * sines[angle];
                if (reached > farthest || reached == farthest && angle < found) {
                    farthest = reached;
                    found = angle;
                }
            }
            return found;
        }

        private static int quarterOf(long ahead, long across) {
            if (across >= 0) {
                return ahead >= 0 ? 0 : 1;
            }
            return ahead < 0 ? 2 : 3;
        }
    }
}
