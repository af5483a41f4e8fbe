import java.util.Random;

/** Any arguments in any state: no call throws, and the same calls give the same answers. */
public final class EdgeTest {
    private static final int[] EDGES = {
        Integer.MIN_VALUE, Integer.MIN_VALUE + 1, -1001, -1000, -2, -1, 0, 1, 2, 3, 4, 5, 6, 7, 8, 9, 10, 15, 16, 17,
        499, 500, 501, 999, 1000, 1001, 9999, 10000, 10001, 29999, 30000, 30001, 60000, 60001,
        Integer.MAX_VALUE - 1, Integer.MAX_VALUE,
    };

    private static int edge(Random random) {
        return random.nextInt(3) == 0 ? EDGES[random.nextInt(EDGES.length)] : random.nextInt(6);
    }

    private static String anyBook(Random random) {
        String[] pieces = {
            "leg 0 1 400;", "leg 1 2 300;", "leg 2 0 1 at 5 5;", "leg 1 0 999;", "leg 2 1 7 from 3 4;", "leg 3 4 5;",
            "speed 0 100;", "speed 1 999;", "wind 0 0 0 -400;", "wind 1 3 1 400;", "wind 2 5 2 -351;", "burn 0 0 1;",
            "burn 0 4 9999;", "burn 3 2 500;", "climb 0 999;", "climb 5 999;", "tank 0;", "tank 60000;", "most 60000;",
            "land 0;", "dry 60000;", "dry 900;", " ", "\n", "leg", "5", ";",
        };
        StringBuilder text = new StringBuilder("leg 0 1 100;leg 1 2 100;leg 2 0 100;");
        int count = random.nextInt(20);
        for (int i = 0; i < count; i++) {
            text.append(pieces[random.nextInt(pieces.length - (random.nextInt(3) == 0 ? 0 : 3))]);
        }
        return text.toString();
    }

    private static long call(FlightDesk desk, Random random) {
        int a = edge(random);
        int b = edge(random);
        int c = edge(random);
        int d = edge(random);
        int e = edge(random);
        switch (random.nextInt(20)) {
            case 0: return desk.feed(a, b, c, d, e);
            case 1: return desk.end(a);
            case 2: return desk.book();
            case 3: return desk.fault(a);
            case 4: return desk.flight(a, b, c, d, e) ? 1 : 0;
            case 5: return desk.told(a, b, c, d);
            case 6: return desk.minutes(a, b, c);
            case 7: return desk.fuel(a, b, c, d);
            case 8: return desk.need(a);
            case 9: return desk.legs(a);
            case 10: return desk.leg(a, b, c);
            case 11: return desk.time(a);
            case 12: return desk.legal(a);
            case 13: return desk.borne(a);
            case 14: return desk.at(a, b, c);
            case 15: return desk.home(a, b);
            case 16: return desk.lastReturn(a, b);
            case 17: return desk.carry(a, b, c);
            case 18: return desk.about(a);
            default: return desk.flight(a % 4, b % 4, c % 9, Math.abs(d % 9000), Math.abs(e % 9000)) ? 1 : 0;
        }
    }

    private static long run(int seed) {
        Random random = new Random(seed);
        FlightDesk desk = new FlightDesk();
        long sum = 0;
        for (int i = 0; i < 512; i++) {
            if (random.nextInt(40) == 0) {
                desk.end(0);
                Check.feed(desk, anyBook(random));
                sum = sum * 31 + desk.book();
            }
            sum = sum * 31 + call(desk, random);
        }
        return sum;
    }

    public static void main(String[] args) {
        Check check = new Check();
        for (int seed = 0; seed < 2000; seed++) {
            check.due("the same calls, run " + seed, run(seed), run(seed));
        }
        check.close();
    }
}
