import java.util.Random;

/** Runs of calls that a written seed draws: each answer is the plain model's. */
final class ModelTest {
    private static final int RUNS = 80;
    /** A step asks twice at most: an object is good for 512 calls. */
    private static final int STEPS = 256;

    private final SailLog log = new SailLog();
    private final PlainModel model = new PlainModel();
    private final Random random;
    private final int busy;
    private int minute = 0;

    private ModelTest(int seed) {
        random = new Random(seed);
        // Some runs fill the log, others leave it short.
        busy = 3 + seed % 5 * 10;
    }

    static void run() {
        for (int seed = 0; seed < RUNS; seed++) {
            ModelTest test = new ModelTest(seed);
            for (int step = 0; step < STEPS; step++) {
                test.step("seed " + seed + ", step " + step);
            }
        }
    }

    private void step(String where) {
        if (random.nextInt(100) < busy) {
            stepOfLog(where);
            return;
        }
        switch (random.nextInt(4)) {
            case 0 -> stepOfSettings(where);
            case 1 -> stepOfTable(where);
            default -> stepOfEntries(where);
        }
    }

    private void stepOfLog(String where) {
        minute = Math.min(1439, minute + random.nextInt(40) - 1);
        int m = near(minute, 0, 1439);
        int s = drawn(0, 300);
        int h = drawn(0, 359);
        int w = drawn(0, 600);
        int a = drawn(0, 359);
        same(where + " log", () -> model.log(m, s, h, w, a), () -> log.log(m, s, h, w, a));
    }

    private void stepOfSettings(String where) {
        if (random.nextInt(3) == 0) {
            int f = drawn(500, 1500);
            int c = drawn(-20, 20);
            int v = drawn(-20, 20);
            same(where + " setFaults", () -> model.setFaults(f, c, v), () -> log.setFaults(f, c, v));
        } else {
            int h = drawn(0, 23);
            int d = drawn(0, 359);
            int s = drawn(0, 100);
            same(where + " setTide", () -> model.setTide(h, d, s), () -> log.setTide(h, d, s));
        }
    }

    private void stepOfTable(String where) {
        int r = drawn(0, 18);
        int c = drawn(0, 9);
        int f = drawn(0, 359);
        int b = drawn(0, 359);
        switch (random.nextInt(5)) {
            case 0 -> same(where + " best", () -> model.best(r, c), () -> log.best(r, c));
            case 1 -> same(where + " bestByLog", () -> model.best(r, c), () -> log.bestByLog(r, c));
            case 2 -> same(where + " bestUp", () -> model.bestUp(c), () -> log.bestUp(c));
            case 3 -> same(where + " bestDown", () -> model.bestDown(c), () -> log.bestDown(c));
            default -> same(where + " bestCourse",
                    () -> model.bestCourse(c, f, b), () -> log.bestCourse(c, f, b));
        }
    }

    private void stepOfEntries(String where) {
        int e = drawn(0, Math.max(model.entries() - 1, 0));
        int k = drawn(1, 2);
        int n = random.nextInt();
        switch (random.nextInt(12)) {
            case 0 -> same(where + " speed", () -> model.speed(e), () -> log.speed(e));
            case 1 -> same(where + " strength", () -> model.strength(e), () -> log.strength(e));
            case 2 -> same(where + " angle", () -> model.angle(e), () -> log.angle(e));
            case 3 -> same(where + " from", () -> model.from(e), () -> log.from(e));
            case 4 -> same(where + " side", () -> model.side(e), () -> log.side(e));
            case 5 -> same(where + " turn", () -> model.turn(e), () -> log.turn(e));
            case 6 -> same(where + " cost", () -> model.cost(e), () -> log.cost(e));
            case 7 -> same(where + " costs", () -> model.costs(k), () -> log.costs(k));
            case 8 -> same(where + " east", () -> model.east(e), () -> log.east(e));
            case 9 -> same(where + " north", () -> model.north(e), () -> log.north(e));
            case 10 -> same(where + " vaneShown", model::vaneShown, log::vaneShown);
            default -> same(where + " sine", () -> PlainModel.sine(n), () -> log.sine(n));
        }
        same(where + " entries", model::entries, log::entries);
    }

    private static void same(String what, Checks.Call due, Checks.Call answered) {
        String dueOutcome = Checks.outcome(due);
        String outcome = Checks.outcome(answered);
        Checks.holds(what + " " + outcome + ", due: " + dueOutcome, outcome.equals(dueOutcome));
    }

    /** Mostly in range, now and then one of the ends, one beyond them, or far out. */
    private int drawn(int least, int most) {
        return near(least + random.nextInt(most - least + 1), least, most);
    }

    private int near(int usual, int least, int most) {
        return switch (random.nextInt(100)) {
            case 0 -> least - 1;
            case 1 -> most + 1;
            case 2 -> random.nextBoolean() ? Integer.MIN_VALUE : Integer.MAX_VALUE;
            case 3, 4 -> least;
            case 5, 6 -> most;
            default -> usual;
        };
    }
}
