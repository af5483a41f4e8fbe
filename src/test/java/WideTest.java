import java.util.ArrayList;
import java.util.Collections;
import java.util.List;
import java.util.Random;

/** Books up to the document's limits (1,000 bytes, 60 lines, 16 LEGS, 10 POINTS, all LEVELS) against Trails. */
public final class WideTest {
    private static final Check CHECK = new Check();
    private static final Random RANDOM = new Random(20261118);
    private static String about = "";
    private static int compared = 0;
    private static int longest = 0;

    private static int pick(int low, int high) {
        return low + RANDOM.nextInt(high - low + 1);
    }

    private static void due(String call, long got, long want) {
        CHECK.due(call, got, want);
        if (got != want) {
            System.out.println("  " + about);
        }
    }

    /** A chain through some of the POINTS, some of it both ways, with LEGS across, told along it or in any order. */
    private static List<String> makeLegs(boolean coarse) {
        List<String> legs = new ArrayList<>();
        int points = pick(5, 10);
        for (int point = 0; point + 1 < points; point++) {
            legs.add(makeLeg(point, point + 1, coarse));
            if (pick(0, 1) == 0) {
                legs.add(makeLeg(point + 1, point, coarse));
            }
        }
        int across = pick(0, 6);
        for (int i = 0; i < across; i++) {
            int from = pick(0, points - 1);
            legs.add(makeLeg(from, (from + pick(1, points - 1)) % points, coarse));
        }
        // Told along the chain, they are reckoned back just one LEG a round.
        if (pick(0, 1) == 0) {
            Collections.shuffle(legs, RANDOM);
        }
        return legs.subList(0, Math.min(legs.size(), pick(0, 20) == 0 ? 17 : 16));
    }

    private static String makeLeg(int from, int to, boolean coarse) {
        String leg = "leg " + from + " " + to + " " + (coarse ? pick(1, 3) * 100 : pick(1, 999));
        if (pick(0, 3) == 0) {
            int low = pick(0, 5);
            leg += " at " + low + " " + pick(low, 5);
        }
        if (pick(0, 9) == 0) {
            int day = pick(0, 3);
            leg += " from " + day + " " + pick(day + 1, 9);
        }
        return leg + ";";
    }

    private static String makeBook(boolean coarse) {
        List<String> legs = makeLegs(coarse);
        StringBuilder text = new StringBuilder(String.join("", legs));
        List<String> lines = new ArrayList<>();
        for (int level = 0; level < 6; level++) {
            lines.add("speed" + level + " " + (coarse ? pick(1, 4) * 100 : pick(100, 999)) + ";");
            lines.add("climb" + level + " " + (coarse ? pick(0, 2) * 20 : pick(0, 200)) + ";");
            int burn = pick(1, 300);
            for (int band = 0; band < 5; band += pick(1, 3)) {
                lines.add("burn" + level + " " + band + " " + (coarse ? (burn + 59) / 60 * 60 : burn) + ";");
                burn += pick(0, 300);
            }
        }
        for (int i = 0; i < 20; i++) {
            String wind = "wind" + pick(0, 2) + " " + pick(0, 5) + " " + pick(0, legs.size() - 1) + " ";
            lines.add(wind + (coarse ? pick(-2, 2) * 50 : pick(-300, 300)) + ";");
        }
        lines.add("tank " + pick(0, 9000) + ";");
        lines.add("most " + pick(0, 9000) + ";");
        lines.add("land " + pick(0, 9000) + ";");
        lines.add("dry " + pick(0, 4000) + ";");
        Collections.shuffle(lines, RANDOM);
        int count = pick(0, lines.size());
        for (int i = 0; i < count && text.length() + lines.get(i).length() <= 1000; i++) {
            text.append(lines.get(i));
        }
        return text.toString();
    }

    private static boolean compareBook(FlightDesk desk, Oracle oracle, String text) {
        about = text;
        desk.end(0);
        Check.feed(desk, text);
        boolean read = oracle.read(text);
        due("book()", desk.book(), read ? oracle.legs.size() : -1);
        due("fault(0)", desk.fault(0), oracle.fault);
        due("fault(1)", desk.fault(1), oracle.place);
        due("about(0)", desk.about(0), oracle.legs.size());
        due("about(1)", desk.about(1), oracle.lines);
        return read;
    }

    private static void compareFlight(FlightDesk desk, Oracle oracle) {
        oracle.from = pick(0, 3) == 0 ? 0 : pick(0, 5);
        oracle.to = oracle.from == 0 ? pick(4, 9) : (oracle.from + pick(1, 9)) % 10;
        oracle.day = pick(0, 9);
        oracle.payload = pick(0, 2000);
        oracle.reserve = pick(0, 2000);
        desk.flight(oracle.from, oracle.to, oracle.day, oracle.payload, oracle.reserve);
        about = oracle.from + " to " + oracle.to + " on " + oracle.day + " with " + oracle.payload + ", " + oracle.reserve
            + " in " + about;
        List<List<Oracle.Step>> bests = new ArrayList<>();
        boolean all = true;
        for (int world = 0; world < 3; world++) {
            Trails onward = new Trails(oracle, world, oracle.from, oracle.to);
            Trails back = new Trails(oracle, world, oracle.to, oracle.from);
            bests.add(onward.best);
            if (onward.areAll() && back.areAll()) {
                compareWorld(desk, oracle, onward, back, world);
            }
            all = all && onward.areAll();
        }
        for (int n = 1; n <= 3 && all; n++) {
            due("borne(" + n + ")", desk.borne(n), oracle.borne(bests, n));
        }
    }

    private static void compareWorld(FlightDesk desk, Oracle oracle, Trails onward, Trails back, int world) {
        List<Oracle.Step> best = onward.best;
        due("need", desk.need(world), onward.least[oracle.from][0]);
        due("legs", desk.legs(world), best == null ? -1 : best.size());
        if (best == null) {
            due("home", desk.home(world, 0), -1);
            return;
        }
        compared++;
        longest = Math.max(longest, best.size());
        int need = oracle.need(best, world, oracle.reserve, -1);
        due("need, reckoned along it", desk.need(world), need);
        due("legal", desk.legal(world), oracle.law(need, oracle.reserve));
        due("home of the first", desk.home(world, 0), 0);
        int fuel = Math.min(60000, need + pick(0, 3000));
        int last = need <= 60000 ? 0 : -1;
        boolean returns = need <= 60000;
        int time = 0;
        for (int k = 0; k < best.size(); k++) {
            Oracle.Step step = best.get(k);
            int home = back.least[oracle.legs.get(step.leg()).to()][step.level() + 1];
            int there = need > 60000 ? -1 : oracle.at(best, world, fuel, k + 1);
            due("leg 0 of " + k, desk.leg(world, k, 0), step.leg());
            due("leg 1 of " + k, desk.leg(world, k, 1), step.level());
            due("at " + (k + 1), desk.at(world, fuel, k + 1), there);
            due("home " + (k + 1), desk.home(world, k + 1), home);
            returns = returns && home >= 0 && there >= home;
            last = returns ? k + 1 : last;
            time += oracle.minutes(step.leg(), step.level(), world);
        }
        due("time", desk.time(world), time);
        due("lastReturn with " + fuel, desk.lastReturn(world, fuel), last);
        int here = pick(0, 1000);
        int there = pick(0, 1000);
        boolean legal = oracle.law(need, oracle.reserve) == 0;
        due("carry", desk.carry(world, here, there), legal ? oracle.carry(best, world, here, there) : -1);
    }

    public static void main(String[] args) {
        for (int i = 0; i < 400 && CHECK.isClean(); i++) {
            FlightDesk desk = new FlightDesk();
            Oracle oracle = new Oracle();
            for (int j = 0; j < 3; j++) {
                if (compareBook(desk, oracle, makeBook(i % 2 == 0))) {
                    compareFlight(desk, oracle);
                    compareFlight(desk, oracle);
                }
            }
        }
        System.out.println(compared + " ways, the longest of " + longest + " legs");
        CHECK.close();
    }
}
