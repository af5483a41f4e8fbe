import java.util.ArrayList;
import java.util.Arrays;
import java.util.List;

/**
 * All orders of LEGS that lead to a goal, none with a LEG twice, taken from the goal back; for each order the least
 * fuel by LEVELS. So books too wide for the Oracle's trying of all LEVELS can be tried, too.
 */
final class Trails {
    private static final int MOST_TRAILS = 6000;
    private static final int LEVELS = 6;

    private final Oracle oracle;
    private final int start;
    private final int[][] minutes;
    private final int[][] burns = new int[LEVELS][5];
    private final int weight;
    private final List<Integer> trail = new ArrayList<>();
    /** For each LEG of the trail the least fuel ahead of it, by its LEVEL, its climbs behind one. */
    private final List<int[]> ahead = new ArrayList<>();
    private int tried = 0;

    /** The least fuel at each POINT by the LEVEL there and 1 (0: the ground); -1 if there is no way. */
    final int[][] least = new int[10][LEVELS + 1];
    /** The first of the least from the start's ground; null if there is none. */
    List<Oracle.Step> best = null;

    Trails(Oracle oracle, int world, int start, int goal) {
        this.oracle = oracle;
        this.start = start;
        this.weight = oracle.limit("dry") + oracle.payload;
        this.minutes = new int[oracle.legs.size()][LEVELS];
        for (int level = 0; level < LEVELS; level++) {
            for (int leg = 0; leg < minutes.length; leg++) {
                minutes[leg][level] = oracle.minutes(leg, level, world);
            }
            for (int band = 0; band < 5; band++) {
                burns[level][band] = oracle.burn(level, band);
            }
        }
        for (int[] row : least) {
            Arrays.fill(row, -1);
        }
        goBack(goal);
    }

    /** False if there were too many, so that nothing can be said. */
    boolean areAll() {
        return tried <= MOST_TRAILS;
    }

    private void goBack(int point) {
        tried++;
        for (int leg = 0; leg < minutes.length && areAll(); leg++) {
            if (oracle.legs.get(leg).to() != point || trail.contains(leg)) {
                continue;
            }
            trail.add(0, leg);
            ahead.add(0, aheadOf(leg));
            if (canBeFlown(ahead.get(0))) {
                int first = oracle.legs.get(leg).from();
                takeLeast(first);
                goBack(first);
            }
            trail.remove(0);
            ahead.remove(0);
        }
    }

    private int[] aheadOf(int leg) {
        int[] row = new int[LEVELS];
        for (int level = 0; level < LEVELS; level++) {
            int left = ahead.isEmpty() ? oracle.reserve : lowest(ahead.get(0), level);
            int sixty = minutes[leg][level] * burns[level][Math.min(4, (weight + left) / 1000)];
            row[level] = minutes[leg][level] < 0 ? -1 : left + (sixty + 59) / 60;
        }
        return row;
    }

    private static boolean canBeFlown(int[] row) {
        for (int fuel : row) {
            if (fuel >= 0) {
                return true;
            }
        }
        return false;
    }

    /** The least of a row from a LEVEL (-1: the ground) on. */
    private int lowest(int[] row, int from) {
        int lowest = -1;
        for (int level = 0; level < LEVELS; level++) {
            int wanted = row[level] + oracle.climbs(from, level);
            if (row[level] >= 0 && (lowest < 0 || wanted < lowest)) {
                lowest = wanted;
            }
        }
        return lowest;
    }

    private void takeLeast(int first) {
        int before = least[first][0];
        for (int stage = 0; stage <= LEVELS; stage++) {
            int wanted = lowest(ahead.get(0), stage - 1);
            if (least[first][stage] < 0 || wanted < least[first][stage]) {
                least[first][stage] = wanted;
            }
        }
        if (first == start && lowest(ahead.get(0), -1) == least[first][0]) {
            List<Oracle.Step> way = firstOfLeast();
            if (best == null || least[first][0] < before || isAhead(way, best)) {
                best = way;
            }
        }
    }

    private List<Oracle.Step> firstOfLeast() {
        List<Oracle.Step> way = new ArrayList<>();
        int on = -1;
        for (int k = 0; k < trail.size(); k++) {
            int[] row = ahead.get(k);
            int wanted = lowest(row, on);
            int level = 0;
            while (row[level] < 0 || row[level] + oracle.climbs(on, level) != wanted) {
                level++;
            }
            way.add(new Oracle.Step(trail.get(k), level));
            on = level;
        }
        return way;
    }

    private static boolean isAhead(List<Oracle.Step> one, List<Oracle.Step> other) {
        for (int k = 0; k < Math.min(one.size(), other.size()); k++) {
            if (one.get(k).leg() != other.get(k).leg()) {
                return one.get(k).leg() < other.get(k).leg();
            }
            if (one.get(k).level() != other.get(k).level()) {
                return one.get(k).level() < other.get(k).level();
            }
        }
        return one.size() < other.size();
    }
}
