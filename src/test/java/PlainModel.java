import java.util.ArrayList;
import java.util.List;

/** The document word by word, keeping nothing but what was told: all is found anew each time. */
final class PlainModel {
    private record Told(int minute, int speed, int heading, int strength, int angle) {
    }

    private final List<Told> log = new ArrayList<>();
    private final int[][] tides = new int[24][2];
    private int factor = 1000;
    private int compass = 0;
    private int vane = 0;

    int log(int minute, int speed, int heading, int strength, int angle) {
        argument(minute, 0, 1439);
        argument(speed, 0, 300);
        argument(heading, 0, 359);
        argument(strength, 0, 600);
        argument(angle, 0, 359);
        if (log.size() == 60 || !log.isEmpty() && minute <= log.get(log.size() - 1).minute) {
            throw new IllegalStateException();
        }
        log.add(new Told(minute, speed, heading, strength, angle));
        return log.size() - 1;
    }

    int setFaults(int newFactor, int newCompass, int newVane) {
        argument(newFactor, 500, 1500);
        argument(newCompass, -20, 20);
        argument(newVane, -20, 20);
        int before = factor;
        factor = newFactor;
        compass = newCompass;
        vane = newVane;
        return before;
    }

    int setTide(int hour, int direction, int drift) {
        index(hour, 24);
        argument(direction, 0, 359);
        argument(drift, 0, 100);
        int before = tides[hour][1];
        tides[hour] = new int[] {direction, drift};
        return before;
    }

    int entries() {
        return log.size();
    }

    static int sine(int angle) {
        int d = Math.floorMod(angle, 360);
        return d < 180 ? 4000 * d * (180 - d) / (40500 - d * (180 - d)) : -sine(d - 180);
    }

    int speed(int entry) {
        index(entry, log.size());
        return Math.floorDiv(log.get(entry).speed * factor, 1000);
    }

    private int heading(int entry) {
        return Math.floorMod(log.get(entry).heading + compass, 360);
    }

    private long ahead(int entry) {
        int felt = log.get(entry).angle + vane;
        return (long) log.get(entry).strength * sine(felt + 90) - 1000L * speed(entry);
    }

    private long across(int entry) {
        return (long) log.get(entry).strength * sine(log.get(entry).angle + vane);
    }

    int strength(int entry) {
        index(entry, log.size());
        long square = ahead(entry) * ahead(entry) + across(entry) * across(entry);
        long root = (long) Math.sqrt((double) square) + 2;
        while (root * root > square) {
            root--;
        }
        return (int) (root / 1000);
    }

    int angle(int entry) {
        index(entry, log.size());
        long ahead = ahead(entry);
        long across = across(entry);
        int best = 0;
        for (int a = 1; a < 360; a++) {
            if (ahead * sine(a + 90) + across * sine(a)
                    > ahead * sine(best + 90) + across * sine(best)) {
                best = a;
            }
        }
        return best;
    }

    int from(int entry) {
        index(entry, log.size());
        return (heading(entry) + angle(entry)) % 360;
    }

    int side(int entry) {
        int angle = angle(entry);
        return angle >= 1 && angle <= 179 ? 1 : angle >= 181 ? 2 : 0;
    }

    private int open(int entry) {
        int angle = angle(entry);
        return 360 - angle < angle ? 360 - angle : angle;
    }

    int best(int row, int column) {
        index(row, 19);
        index(column, 10);
        int best = 0;
        for (int i = 0; i < log.size(); i++) {
            int strength = strength(i);
            boolean there = strength >= 40 * column && (column == 9 || strength < 40 * column + 40);
            if (there && open(i) >= 10 * row && open(i) < 10 * row + 10) {
                best = Math.max(best, speed(i));
            }
        }
        return best;
    }

    private int[] speedsOf(int column) {
        int[] speeds = new int[19];
        for (int row = 0; row < 19; row++) {
            speeds[row] = best(row, column);
        }
        return speeds;
    }

    int bestUp(int column) {
        index(column, 10);
        int[] speeds = speedsOf(column);
        int best = -1;
        for (int row = 8; row >= 0; row--) {
            if (speeds[row] > 0 && (best == -1
                    || speeds[row] * sine(10 * row + 95) >= speeds[best] * sine(10 * best + 95))) {
                best = row;
            }
        }
        return best;
    }

    int bestDown(int column) {
        index(column, 10);
        int[] speeds = speedsOf(column);
        int best = -1;
        int least = 0;
        for (int row = 18; row >= 9; row--) {
            int product = speeds[row] * (row == 18 ? -1000 : sine(10 * row + 95));
            if (speeds[row] > 0 && product <= least) {
                best = row;
                least = product;
            }
        }
        return best;
    }

    int bestCourse(int column, int from, int bearing) {
        index(column, 10);
        argument(from, 0, 359);
        argument(bearing, 0, 359);
        int[] speeds = speedsOf(column);
        int best = -1;
        int greatest = 0;
        for (int heading = 0; heading < 360; heading++) {
            int off = Math.abs(from - heading);
            int open = off > 180 ? 360 - off : off;
            int product = speeds[open / 10] * sine(heading - bearing + 90);
            if (product > greatest) {
                best = heading;
                greatest = product;
            }
        }
        return best;
    }

    int turn(int entry) {
        index(entry, log.size());
        if (entry == 0 || side(entry) + side(entry - 1) != 3) {
            return 0;
        }
        return open(entry) + open(entry - 1) < 180 ? 1 : 2;
    }

    int cost(int entry) {
        index(entry, log.size());
        int cost = 0;
        for (int i = entry; turn(entry) != 0 && i <= entry + 2 && i < log.size(); i++) {
            if (speed(entry - 1) > speed(i)) {
                cost += (speed(entry - 1) - speed(i)) * (log.get(i).minute - log.get(i - 1).minute);
            }
        }
        return cost;
    }

    int costs(int kind) {
        argument(kind, 1, 2);
        int sum = 0;
        for (int i = 0; i < log.size(); i++) {
            sum += turn(i) == kind ? cost(i) : 0;
        }
        return sum;
    }

    int east(int entry) {
        return place(entry, 0);
    }

    int north(int entry) {
        return place(entry, 90);
    }

    private int place(int entry, int on) {
        index(entry, log.size());
        long boat = 0;
        long tide = 0;
        for (int i = 1; i <= entry; i++) {
            Told first = log.get(i - 1);
            int minutes = log.get(i).minute - first.minute;
            boat += (long) speed(i - 1) * sine(heading(i - 1) + on) * minutes;
            int[] hour = tides[first.minute / 60];
            tide += (long) hour[1] * sine(hour[0] + on) * minutes;
        }
        return (int) Math.floorDiv(boat + tide, 6000L);
    }

    int vaneShown() {
        int[] sums = new int[3];
        int[] counts = new int[3];
        for (int i = 0; i < log.size(); i++) {
            sums[side(i)] += open(i);
            counts[side(i)]++;
        }
        if (counts[1] == 0 || counts[2] == 0) {
            return -1000;
        }
        return Math.floorDiv(sums[2] / counts[2] - sums[1] / counts[1], 2);
    }

    private static void argument(int value, int least, int most) {
        if (value < least || value > most) {
            throw new IllegalArgumentException();
        }
    }

    private static void index(int value, int end) {
        if (value < 0 || value >= end) {
            throw new IndexOutOfBoundsException();
        }
    }
}
