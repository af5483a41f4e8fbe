import java.util.ArrayList;
import java.util.HashMap;
import java.util.List;
import java.util.Map;
import java.util.regex.Matcher;
import java.util.regex.Pattern;

/**
 * The document's words carried out as slowly and plainly as can be: all WAYS are tried, all amounts are
 * tried, and what is led on is looked for at each call.
 */
final class Oracle {
    private static final Pattern PIECE = Pattern.compile("[ \n]+|[a-z]+|-?[0-9]+[a-z]*|;|.", Pattern.DOTALL);

    record Token(String text, int place) {
        boolean isWord() {
            return text.matches("[a-z]{1,8}");
        }

        boolean isNumber() {
            return text.matches("-?[0-9]{1,5}");
        }

        boolean isToken() {
            return text.isEmpty() || text.equals(";") || isWord() || isNumber();
        }
    }

    record Leg(int from, int to, int miles, int low, int high, int first, int last) { }

    record Step(int leg, int level) { }

    private static final class Refused extends RuntimeException {
        private static final long serialVersionUID = 1L;
        final int fault;
        final int place;

        Refused(int fault, int place) {
            this.fault = fault;
            this.place = place;
        }
    }

    int fault = 0;
    int place = -1;
    List<Leg> legs = new ArrayList<>();
    Map<String, Integer> told = new HashMap<>();
    int lines = 0;
    boolean hasFlight = false;
    int from;
    int to;
    int day;
    int payload;
    int reserve;

    private List<Token> tokens;
    private int at;

    // ---- the book

    boolean read(String text) {
        List<Leg> oldLegs = legs;
        Map<String, Integer> oldTold = told;
        int oldLines = lines;
        fault = 0;
        place = -1;
        legs = new ArrayList<>();
        told = new HashMap<>();
        lines = 0;
        cut(text);
        try {
            while (!tokens.get(at).text().isEmpty()) {
                line();
            }
            hasFlight = false;
            return true;
        } catch (Refused refused) {
            fault = refused.fault;
            place = refused.place;
            legs = oldLegs;
            told = oldTold;
            lines = oldLines;
            return false;
        }
    }

    private void cut(String text) {
        tokens = new ArrayList<>();
        at = 0;
        Matcher matcher = PIECE.matcher(text);
        while (matcher.find()) {
            if (!matcher.group().isBlank() || !matcher.group().matches("[ \n]+")) {
                tokens.add(new Token(matcher.group(), matcher.start()));
            }
        }
        tokens.add(new Token("", text.length()));
    }

    private Token take() {
        Token token = tokens.get(at);
        if (!token.isToken()) {
            throw new Refused(1, token.place());
        }
        at = Math.min(at + 1, tokens.size() - 1);
        return token;
    }

    private int number(int low, int high) {
        Token token = take();
        if (!token.isNumber()) {
            throw new Refused(2, token.place());
        }
        int number = Integer.parseInt(token.text());
        if (number < low || number > high) {
            throw new Refused(3, token.place());
        }
        return number;
    }

    private void fresh(String key) {
        if (told.containsKey(key)) {
            throw new Refused(4, tokens.get(at - 1).place());
        }
    }

    private boolean optional(String word) {
        if (tokens.get(at).text().equals(word)) {
            at++;
            return true;
        }
        return false;
    }

    private void line() {
        Token word = take();
        if (lines == 60) {
            throw new Refused(2, word.place());
        }
        String key;
        int value = 0;
        switch (word.text()) {
            case "leg" -> {
                if (legs.size() == 16) {
                    throw new Refused(2, word.place());
                }
                key = null;
                leg();
            }
            case "speed" -> {
                key = "speed " + number(0, 5);
                fresh(key);
                value = number(100, 999);
            }
            case "wind" -> {
                key = "wind " + number(0, 2) + " " + number(0, 5) + " " + number(0, legs.size() - 1);
                fresh(key);
                value = number(-400, 400);
            }
            case "burn" -> {
                int level = number(0, 5);
                int band = number(0, 4);
                key = "burn " + level + " " + band;
                fresh(key);
                value = number(1, 9999);
                order(level, band, value);
            }
            case "climb" -> {
                key = "climb " + number(0, 5);
                fresh(key);
                value = number(0, 999);
            }
            case "tank", "most", "land", "dry" -> {
                key = word.text();
                fresh(key);
                value = number(0, 60000);
            }
            default -> throw new Refused(2, word.place());
        }
        Token end = take();
        if (!end.text().equals(";")) {
            throw new Refused(2, end.place());
        }
        if (key != null) {
            told.put(key, value);
        }
        lines++;
    }

    private void leg() {
        int first = number(0, 9);
        int second = number(0, 9);
        if (first == second) {
            throw new Refused(3, tokens.get(at - 1).place());
        }
        int miles = number(1, 999);
        int low = 0;
        int high = 5;
        int firstDay = 0;
        int lastDay = 999;
        if (optional("at")) {
            low = number(0, 5);
            high = number(low, 5);
        }
        if (optional("from")) {
            firstDay = number(0, 999);
            lastDay = number(firstDay, 999);
        }
        legs.add(new Leg(first, second, miles, low, high, firstDay, lastDay));
    }

    private void order(int level, int band, int value) {
        for (int b = 0; b < 5; b++) {
            Integer other = told.get("burn " + level + " " + b);
            // What is told is in order, so against all is the same as against the next ones.
            if (other != null && (b < band && value < other || b > band && value > other)) {
                throw new Refused(5, tokens.get(at - 1).place());
            }
        }
    }

    // ---- what is led on

    int speed(int level) {
        return told.getOrDefault("speed " + level, 400);
    }

    int wind(int world, int level, int leg) {
        for (int l = level; l >= 0; l--) {
            Integer wind = told.get("wind " + world + " " + l + " " + leg);
            if (wind != null) {
                return wind;
            }
        }
        return 0;
    }

    int burn(int level, int band) {
        for (int b = band; b >= 0; b--) {
            Integer burn = told.get("burn " + level + " " + b);
            if (burn != null) {
                return burn;
            }
        }
        for (int b = band + 1; b < 5; b++) {
            Integer burn = told.get("burn " + level + " " + b);
            if (burn != null) {
                return burn;
            }
        }
        return 1000;
    }

    int climb(int level) {
        return told.getOrDefault("climb " + level, 0);
    }

    int limit(String name) {
        int untold = name.equals("tank") ? 30000 : name.equals("dry") ? 0 : 60000;
        return told.getOrDefault(name, untold);
    }

    // ---- the flight

    int minutes(int leg, int level, int world) {
        Leg it = legs.get(leg);
        int pace = speed(level) + wind(world, level, leg);
        if (pace < 50 || level < it.low() || level > it.high() || day < it.first() || day > it.last()) {
            return -1;
        }
        int minutes = it.miles() * 60 / pace;
        return minutes * pace == it.miles() * 60 ? minutes : minutes + 1;
    }

    int fuel(int leg, int level, int world, int left) {
        int band = Math.min(4, (limit("dry") + payload + left) / 1000);
        int sixty = minutes(leg, level, world) * burn(level, band);
        return sixty % 60 == 0 ? sixty / 60 : sixty / 60 + 1;
    }

    int climbs(int fromLevel, int toLevel) {
        int together = 0;
        for (int l = fromLevel + 1; l <= toLevel; l++) {
            together += climb(l);
        }
        return together;
    }

    /** NEED of a way that begins on a LEVEL (-1: on the ground); -1 if it can't be flown. */
    int need(List<Step> way, int world, int atEnd, int startLevel) {
        int fuel = atEnd;
        for (int k = way.size() - 1; k >= 0; k--) {
            Step step = way.get(k);
            if (minutes(step.leg(), step.level(), world) < 0) {
                return -1;
            }
            fuel += fuel(step.leg(), step.level(), world, fuel);
            fuel += climbs(k == 0 ? startLevel : way.get(k - 1).level(), step.level());
        }
        return fuel;
    }

    /** The BEST from a POINT and LEVEL to a goal; null if there is none. */
    List<Step> best(int world, int start, int startLevel, int goal) {
        List<List<Step>> found = new ArrayList<>();
        ways(world, start, goal, new ArrayList<>(), found);
        List<Step> best = null;
        int least = 0;
        for (List<Step> way : found) {
            int need = need(way, world, reserve, startLevel);
            if (best == null || need < least) {
                best = way;
                least = need;
            }
        }
        return best;
    }

    /** All WAYS, in the order of the document. */
    private void ways(int world, int point, int goal, List<Step> way, List<List<Step>> found) {
        if (point == goal && !way.isEmpty()) {
            found.add(new ArrayList<>(way));
        }
        for (int leg = 0; leg < legs.size(); leg++) {
            int it = leg;
            if (legs.get(leg).from() != point || way.stream().anyMatch(step -> step.leg() == it)) {
                continue;
            }
            for (int level = 0; level < 6; level++) {
                if (minutes(leg, level, world) >= 0) {
                    way.add(new Step(leg, level));
                    ways(world, legs.get(leg).to(), goal, way, found);
                    way.remove(way.size() - 1);
                }
            }
        }
    }

    int law(int ground, int atEnd) {
        int weight = limit("dry") + payload;
        return ground > limit("tank") ? 1 : weight + ground > limit("most") ? 2 : weight + atEnd > limit("land") ? 3 : 0;
    }

    int at(List<Step> best, int world, int fuel, int k) {
        int there = fuel;
        for (int i = 0; i < k; i++) {
            Step step = best.get(i);
            int ahead = there - climbs(i == 0 ? -1 : best.get(i - 1).level(), step.level());
            int left = ahead;
            while (left + fuel(step.leg(), step.level(), world, left) > ahead) {
                left--;
            }
            there = left;
        }
        return there;
    }

    int home(List<Step> best, int world, int k) {
        if (k == 0) {
            return 0;
        }
        Step last = best.get(k - 1);
        List<Step> back = best(world, legs.get(last.leg()).to(), last.level(), from);
        return back == null ? -1 : need(back, world, reserve, last.level());
    }

    int carry(List<Step> best, int world, int here, int there) {
        int cheapest = -1;
        long least = 0;
        for (int x = 0; x <= 500; x++) {
            int ground = need(best, world, reserve + x, -1);
            long cost = (long) here * ground - (long) there * x;
            if (law(ground, reserve + x) == 0 && (cheapest < 0 || cost < least)) {
                cheapest = x;
                least = cost;
            }
        }
        return cheapest;
    }

    int borne(List<List<Step>> bests, int n) {
        int least = -1;
        for (int world = 0; world < n; world++) {
            if (bests.get(world) == null) {
                continue;
            }
            int greatest = 0;
            for (int other = 0; other < n && greatest >= 0; other++) {
                int need = need(bests.get(world), other, reserve, -1);
                greatest = need < 0 ? -1 : Math.max(greatest, need);
            }
            if (greatest >= 0 && (least < 0 || greatest < least)) {
                least = greatest;
            }
        }
        return least;
    }
}
