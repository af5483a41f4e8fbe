import java.util.ArrayList;
import java.util.List;
import java.util.Random;

/** Many made-up books and flights: every answer of a desk against that of the plain Oracle. */
public final class OracleTest {
    private static final Check CHECK = new Check();
    private static final Random RANDOM = new Random(20261117);
    private static String about = "";

    private static int pick(int low, int high) {
        return low + RANDOM.nextInt(high - low + 1);
    }

    private static void due(String call, long got, long want) {
        CHECK.due(call, got, want);
        if (got != want) {
            System.out.println("  " + about);
        }
    }

    /** A book whose WAYS are few enough to be tried one by one; not all of its lines need be right. */
    private static String makeBook(boolean coarse) {
        StringBuilder text = new StringBuilder();
        int points = pick(2, 4);
        int legs = pick(1, 6);
        int unit = coarse ? 100 : 1;
        for (int i = 0; i < legs; i++) {
            int from = pick(0, points - 1);
            int to = (from + pick(1, points - 1)) % points;
            int low = pick(0, 5);
            text.append("leg ").append(from).append(' ').append(to).append(' ').append(pick(1, 900 / unit) * unit);
            text.append(" at ").append(low).append(' ').append(Math.min(5, low + pick(0, 2)));
            if (pick(0, 5) == 0) {
                int day = pick(0, 5);
                text.append(" from ").append(day).append(' ').append(pick(day, 9));
            }
            text.append(';');
        }
        for (int level = 0; level < 6; level++) {
            if (pick(0, 2) == 0) {
                text.append("speed ").append(level).append(' ').append(coarse ? pick(1, 9) * 100 : pick(100, 999)).append(';');
            }
            if (pick(0, 2) == 0) {
                text.append("climb ").append(level).append(' ').append(coarse ? pick(0, 3) * 50 : pick(0, 300)).append(';');
            }
        }
        int winds = pick(0, 12);
        for (int i = 0; i < winds; i++) {
            text.append("wind ").append(pick(0, 2)).append(' ').append(pick(0, 5)).append(' ').append(pick(0, legs - 1));
            text.append(' ').append(coarse ? pick(-4, 4) * 100 : pick(-400, 400)).append(";\n");
        }
        for (int level = 0; level < 6; level++) {
            int burn = pick(1, coarse ? 5 : 400);
            for (int band = 0; band < 5; band++) {
                if (pick(0, 2) == 0) {
                    text.append("burn ").append(level).append(' ').append(band).append(' ').append(coarse ? burn * 60 : burn).append(';');
                }
                burn += pick(0, 1) == 0 ? 0 : pick(0, coarse ? 2 : 900);
            }
        }
        String[] limits = {"tank", "most", "land", "dry"};
        for (String limit : limits) {
            if (pick(0, 2) == 0) {
                text.append(limit).append(' ').append(limit.equals("dry") ? pick(0, 4500) : pick(500, 9000)).append(';');
            }
        }
        return text.length() <= 1000 ? text.toString() : makeBook(coarse);
    }

    /** Changes a few bytes, so that FAULTS of all kinds come up. */
    private static String spoil(String text) {
        StringBuilder spoiled = new StringBuilder(text);
        String signs = "0123456789  ;;--\nabdegilmnrwt?x";
        int changes = pick(0, 3);
        for (int i = 0; i < changes && spoiled.length() > 0; i++) {
            int place = pick(0, spoiled.length() - 1);
            char sign = signs.charAt(pick(0, signs.length() - 1));
            switch (pick(0, 3)) {
                case 0 -> spoiled.setCharAt(place, sign);
                case 1 -> spoiled.deleteCharAt(place);
                case 2 -> spoiled.insert(place, sign);
                default -> spoiled.setLength(pick(0, 9) == 0 ? place : spoiled.length());
            }
        }
        return spoiled.length() <= 1000 ? spoiled.toString() : text;
    }

    private static void compareBook(FlightDesk desk, Oracle oracle, String text) {
        about = text;
        desk.end(0);
        Check.feed(desk, text);
        boolean read = oracle.read(text);
        due("book()", desk.book(), read ? oracle.legs.size() : -1);
        due("fault(0)", desk.fault(0), oracle.fault);
        due("fault(1)", desk.fault(1), oracle.place);
        due("about(0)", desk.about(0), oracle.legs.size());
        due("about(1)", desk.about(1), oracle.lines);
        due("about(2)", desk.about(2), oracle.hasFlight ? 1 : 0);
        due("about(3)", desk.about(3), read ? 0 : text.length());
        for (int level = 0; level < 6; level++) {
            due("told(0)", desk.told(0, level, 0, 0), oracle.speed(level));
            due("told(3)", desk.told(3, level, 0, 0), oracle.climb(level));
            for (int band = 0; band < 5; band++) {
                due("told(2)", desk.told(2, level, band, 0), oracle.burn(level, band));
            }
        }
        for (int cell = 0; cell < 3 * 6 * oracle.legs.size(); cell++) {
            int world = cell % 3;
            int level = cell / 3 % 6;
            due("told(1)", desk.told(1, world, level, cell / 18), oracle.wind(world, level, cell / 18));
        }
        due("told(4)", desk.told(4, 0, 0, 0), oracle.limit("tank"));
        due("told(5)", desk.told(5, 0, 0, 0), oracle.limit("most"));
        due("told(6)", desk.told(6, 0, 0, 0), oracle.limit("land"));
        due("told(7)", desk.told(7, 0, 0, 0), oracle.limit("dry"));
    }

    private static void compareFlight(FlightDesk desk, Oracle oracle) {
        oracle.from = pick(0, 3);
        oracle.to = (oracle.from + pick(1, 3)) % 4;
        oracle.day = pick(0, 9);
        oracle.payload = pick(0, 2) == 0 ? 0 : pick(0, 3000);
        oracle.reserve = pick(0, 3) == 0 ? 0 : pick(0, 4000);
        oracle.hasFlight = desk.flight(oracle.from, oracle.to, oracle.day, oracle.payload, oracle.reserve);
        String asked = oracle.from + " to " + oracle.to + " on " + oracle.day + " with " + oracle.payload + ", " + oracle.reserve;
        about = asked + " in " + about;
        List<List<Oracle.Step>> bests = new ArrayList<>();
        for (int world = 0; world < 3; world++) {
            bests.add(oracle.best(world, oracle.from, -1, oracle.to));
        }
        for (int n = 1; n <= 3; n++) {
            due("borne(" + n + ")", desk.borne(n), oracle.borne(bests, n));
        }
        for (int i = 0; i < 20 && !oracle.legs.isEmpty(); i++) {
            compareLeg(desk, oracle, pick(0, oracle.legs.size() - 1), pick(0, 5), pick(0, 2));
        }
        for (int world = 0; world < 3; world++) {
            if (bests.get(world) == null) {
                compareNone(desk, world);
            } else {
                compareBest(desk, oracle, bests.get(world), world);
            }
        }
    }

    private static void compareLeg(FlightDesk desk, Oracle oracle, int leg, int level, int world) {
        int minutes = oracle.minutes(leg, level, world);
        int left = pick(0, 5000);
        due("minutes", desk.minutes(leg, level, world), minutes);
        due("fuel", desk.fuel(leg, level, world, left), minutes < 0 ? -1 : oracle.fuel(leg, level, world, left));
    }

    private static void compareNone(FlightDesk desk, int world) {
        due("need", desk.need(world), -1);
        due("legs", desk.legs(world), -1);
        due("leg", desk.leg(world, 0, 0), -1);
        due("time", desk.time(world), -1);
        due("legal", desk.legal(world), -1);
        due("at", desk.at(world, 60000, 0), -1);
        due("home", desk.home(world, 0), -1);
        due("lastReturn", desk.lastReturn(world, 60000), -1);
        due("carry", desk.carry(world, 1, 1), -1);
    }

    private static void compareBest(FlightDesk desk, Oracle oracle, List<Oracle.Step> best, int world) {
        int need = oracle.need(best, world, oracle.reserve, -1);
        due("need", desk.need(world), need);
        due("legs", desk.legs(world), best.size());
        due("legal", desk.legal(world), oracle.law(need, oracle.reserve));
        int time = 0;
        for (int k = 0; k < best.size(); k++) {
            Oracle.Step step = best.get(k);
            int minutes = oracle.minutes(step.leg(), step.level(), world);
            int left = oracle.at(best, world, need, k + 1);
            time += minutes;
            due("leg 0", desk.leg(world, k, 0), step.leg());
            due("leg 1", desk.leg(world, k, 1), step.level());
            due("leg 2", desk.leg(world, k, 2), minutes);
            due("leg 3", desk.leg(world, k, 3), oracle.fuel(step.leg(), step.level(), world, left));
        }
        due("leg behind the last", desk.leg(world, best.size(), 0), -1);
        due("time", desk.time(world), time);
        int[] prices = {pick(0, 1000), pick(0, 1000), pick(0, 20), pick(0, 20)};
        for (int i = 0; i < 4; i += 2) {
            boolean legal = oracle.law(need, oracle.reserve) == 0;
            int carried = legal ? oracle.carry(best, world, prices[i], prices[i + 1]) : -1;
            due("carry by " + prices[i] + ", " + prices[i + 1], desk.carry(world, prices[i], prices[i + 1]), carried);
        }
        int[] fuels = {need - 1, need, need + pick(0, 300), need + pick(0, 5000), pick(0, 60000), 60000, 60001};
        for (int fuel : fuels) {
            comparePoints(desk, oracle, best, world, fuel, need);
        }
    }

    private static void comparePoints(FlightDesk desk, Oracle oracle, List<Oracle.Step> best, int world, int fuel, int need) {
        boolean canBe = fuel >= need && fuel <= 60000;
        int last = canBe ? 0 : -1;
        boolean all = canBe;
        for (int k = 0; k <= best.size(); k++) {
            int there = canBe ? oracle.at(best, world, fuel, k) : -1;
            int home = oracle.home(best, world, k);
            due("at " + k + " with " + fuel, desk.at(world, fuel, k), there);
            due("home " + k, desk.home(world, k), home);
            all = all && home >= 0 && there >= home;
            last = all ? k : last;
        }
        due("at behind the last", desk.at(world, fuel, best.size() + 1), -1);
        due("home behind the last", desk.home(world, best.size() + 1), -1);
        due("lastReturn with " + fuel, desk.lastReturn(world, fuel), last);
    }

    public static void main(String[] args) {
        for (int i = 0; i < 4000 && CHECK.isClean(); i++) {
            FlightDesk desk = new FlightDesk();
            Oracle oracle = new Oracle();
            for (int j = 0; j < 3; j++) {
                compareBook(desk, oracle, spoil(makeBook(i % 2 == 0)));
                compareFlight(desk, oracle);
                compareFlight(desk, oracle);
            }
        }
        CHECK.close();
    }
}
