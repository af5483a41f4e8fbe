import java.util.Arrays;

/** A desk that plans flights; the document shared/DOC.md says what each call answers and changes. */
public final class FlightDesk {
    public static final int NONE = -1;

    private static final int TAPE_BYTES = 1000;
    private static final int POINTS = 10;
    private static final int LEVELS = 6;
    private static final int WORLDS = 3;
    private static final int BANDS = 5;
    private static final int DAYS = 1000;
    private static final int MOST_LEGS = 16;
    private static final int MOST_LINES = 60;

    /** A STAGE is where a climb begins: 0 the ground, else a LEVEL and 1. */
    private static final int STAGES = LEVELS + 1;

    private static final int BAND_WEIGHT = 1000;
    private static final int SLOWEST = 50;
    private static final int MOST_FUEL = 60000;
    private static final int MOST_PAYLOAD = 30000;
    private static final int MOST_RESERVE = 10000;
    private static final int MOST_PRICE = 1000;
    private static final int MOST_CARRIED = 500;

    /** Lies outside of all that a BOOK can tell. */
    private static final int UNTOLD = -1000;

    /** Lies far above every NEED. */
    private static final int TOO_MUCH = 1000000000;

    private static final int TANK = 0;
    private static final int MOST = 1;
    private static final int LAND = 2;
    private static final int DRY = 3;
    private static final int LIMITS = 4;

    private final Tape tape;
    private final Reader reader;
    private final Book book;
    private final Flight flight;
    private final Plan[] plans;

    public FlightDesk() {
        tape = new Tape();
        reader = new Reader(tape);
        book = new Book();
        book.leadOn();
        flight = new Flight(book);
        plans = new Plan[WORLDS];
        for (int world = 0; world < WORLDS; world++) {
            plans[world] = new Plan(book, flight, world);
        }
    }

    public int feed(int a, int b, int c, int d, int e) {
        if (!tape.hasRoomFor(20)) {
            return NONE;
        }
        tape.put(a);
        tape.put(b);
        tape.put(c);
        tape.put(d);
        tape.put(e);
        return tape.length;
    }

    public int end(int n) {
        if (n < 0 || n > tape.length) {
            return NONE;
        }
        tape.length = n;
        return n;
    }

    public int book() {
        if (!reader.readTape()) {
            return NONE;
        }
        book.take(reader.draft);
        tape.length = 0;
        flight.isSet = false;
        forgetPlans();
        return book.legCount;
    }

    public int fault(int what) {
        switch (what) {
            case 0:
                return reader.found;
            case 1:
                return reader.foundAt;
            default:
                return NONE;
        }
    }

    public boolean flight(int from, int to, int day, int payload, int reserve) {
        boolean canBe = within(from, POINTS) && within(to, POINTS) && from != to && within(day, DAYS)
            && within(payload, MOST_PAYLOAD + 1) && within(reserve, MOST_RESERVE + 1);
        if (!canBe) {
            return false;
        }
        flight.set(from, to, day, payload, reserve);
        forgetPlans();
        return true;
    }

    public int told(int what, int a, int b, int c) {
        switch (what) {
            case 0:
                return within(a, LEVELS) ? book.speed[a] : UNTOLD;
            case 1:
                return within(a, WORLDS) && within(b, LEVELS) && within(c, book.legCount)
                    ? book.wind[windIndex(a, b, c)] : UNTOLD;
            case 2:
                return within(a, LEVELS) && within(b, BANDS) ? book.burn[burnIndex(a, b)] : UNTOLD;
            case 3:
                return within(a, LEVELS) ? book.climb[a] : UNTOLD;
            case 4:
                return book.limit[TANK];
            case 5:
                return book.limit[MOST];
            case 6:
                return book.limit[LAND];
            case 7:
                return book.limit[DRY];
            default:
                return UNTOLD;
        }
    }

    public int minutes(int leg, int level, int world) {
        if (!flight.isSet || !within(leg, book.legCount) || !within(level, LEVELS) || !within(world, WORLDS)) {
            return NONE;
        }
        return flight.minutesOf(leg, level, world);
    }

    public int fuel(int leg, int level, int world, int left) {
        int flown = minutes(leg, level, world);
        if (flown == NONE || !within(left, MOST_FUEL + 1)) {
            return NONE;
        }
        return flight.fuelOf(flown, level, left);
    }

    public int need(int world) {
        Plan plan = planOf(world);
        return plan == null ? NONE : plan.best.ground;
    }

    public int legs(int world) {
        Plan plan = planOf(world);
        return plan == null ? NONE : plan.best.count;
    }

    public int leg(int world, int k, int what) {
        Plan plan = planOf(world);
        if (plan == null || !within(k, plan.best.count)) {
            return NONE;
        }
        switch (what) {
            case 0:
                return plan.best.leg[k];
            case 1:
                return plan.best.level[k];
            case 2:
                return plan.minutesAlong(k);
            case 3:
                return flight.fuelOf(plan.minutesAlong(k), plan.best.level[k], plan.best.left[k]);
            default:
                return NONE;
        }
    }

    public int time(int world) {
        Plan plan = planOf(world);
        if (plan == null) {
            return NONE;
        }
        int together = 0;
        for (int k = 0; k < plan.best.count; k++) {
            together += plan.minutesAlong(k);
        }
        return together;
    }

    public int legal(int world) {
        Plan plan = planOf(world);
        return plan == null ? NONE : flight.brokenLaw(plan.best.ground, flight.reserve);
    }

    public int borne(int n) {
        if (n < 1 || n > WORLDS) {
            return NONE;
        }
        // Where a WORLD has no WAY, no other WORLD's can be flown in it.
        for (int world = 0; world < n; world++) {
            if (planOf(world) == null) {
                return NONE;
            }
        }
        int least = NONE;
        for (int world = 0; world < n; world++) {
            int greatest = greatestNeed(plans[world].best, n);
            if (greatest != NONE && (least == NONE || greatest < least)) {
                least = greatest;
            }
        }
        return least;
    }

    public int at(int world, int fuel, int k) {
        Plan plan = planOf(world);
        if (plan == null || !plan.canStartWith(fuel) || k < 0 || k > plan.best.count) {
            return NONE;
        }
        int there = fuel;
        for (int i = 0; i < k; i++) {
            there = plan.fuelBehind(i, there);
        }
        return there;
    }

    public int home(int world, int k) {
        Plan plan = planOf(world);
        if (plan == null || k < 0 || k > plan.best.count) {
            return NONE;
        }
        int wanted = plan.fuelHome(k);
        return wanted == TOO_MUCH ? NONE : wanted;
    }

    public int lastReturn(int world, int fuel) {
        Plan plan = planOf(world);
        if (plan == null || !plan.canStartWith(fuel)) {
            return NONE;
        }
        int there = fuel;
        int last = 0;
        for (int k = 1; k <= plan.best.count; k++) {
            there = plan.fuelBehind(k - 1, there);
            if (there < plan.fuelHome(k)) {
                break;
            }
            last = k;
        }
        return last;
    }

    public int carry(int world, int here, int there) {
        Plan plan = planOf(world);
        if (plan == null || !within(here, MOST_PRICE + 1) || !within(there, MOST_PRICE + 1)) {
            return NONE;
        }
        return plan.cheapestCarried(here, there);
    }

    public int about(int what) {
        switch (what) {
            case 0:
                return book.legCount;
            case 1:
                return book.lineCount;
            case 2:
                return flight.isSet ? 1 : 0;
            case 3:
                return tape.length;
            default:
                return NONE;
        }
    }

    private void forgetPlans() {
        for (int world = 0; world < WORLDS; world++) {
            plans[world].forget();
        }
    }

    /** The plan of a WORLD with its BEST; null if there is no FLIGHT, WORLD or WAY. */
    private Plan planOf(int world) {
        if (!flight.isSet || !within(world, WORLDS)) {
            return null;
        }
        Plan plan = plans[world];
        plan.prepare();
        return plan.hasWay ? plan : null;
    }

    /** The greatest NEED of a way in the first n WORLDS, their plans prepared; NONE if one of them can't fly it. */
    private int greatestNeed(Way way, int n) {
        int greatest = NONE;
        for (int world = 0; world < n; world++) {
            int ground = plans[world].groundFor(way, flight.reserve);
            if (ground == NONE) {
                return NONE;
            }
            greatest = Math.max(greatest, ground);
        }
        return greatest;
    }

    private static boolean within(int number, int bound) {
        return number >= 0 && number < bound;
    }

    private static int windIndex(int world, int level, int leg) {
        return (world * LEVELS + level) * MOST_LEGS + leg;
    }

    private static int burnIndex(int level, int band) {
        return level * BANDS + band;
    }

    private static int legIndex(int leg, int level) {
        return leg * LEVELS + level;
    }

    private static int stageIndex(int point, int stage) {
        return point * STAGES + stage;
    }

    /** The bytes that have been fed, each 0 .. 255. */
    private static final class Tape {
        final int[] bytes = new int[TAPE_BYTES];
        int length;

        boolean hasRoomFor(int more) {
            return length + more <= TAPE_BYTES;
        }

        void put(int number) {
            if (!hasRoomFor(4)) {
                return;
            }
            for (int shift = 24; shift >= 0; shift -= 8) {
                bytes[length] = (number >>> shift) & 255;
                length++;
            }
        }

        /** The byte at a place; NONE behind the last. */
        int byteAt(int place) {
            return place >= 0 && place < length ? bytes[place] : NONE;
        }
    }

    /** Cuts a tape into TOKENS, a line at a time. */
    private static final class Scanner {
        static final int END = 0;
        static final int WORD = 1;
        static final int NUMBER = 2;
        static final int SIGN = 3;
        static final int NO_TOKEN = 4;

        static final int LONGEST_WORD = 8;
        static final int MOST_DIGITS = 5;

        /** One more than the longest line has: the reader never looks behind a token that can't stand. */
        static final int MOST_TOKENS = 12;

        final Tape tape;
        int count;
        final int[] kind = new int[MOST_TOKENS];
        final int[] place = new int[MOST_TOKENS];
        /** Of a number its value, of a word its length. */
        final int[] value = new int[MOST_TOKENS];
        private int next;

        Scanner(Tape tape) {
            this.tape = tape;
        }

        void restart() {
            count = 0;
            next = 0;
        }

        /** Takes the tokens up to the next sign, or up to where no line can go on. */
        void scanLine() {
            count = 0;
            for (int i = 0; i < MOST_TOKENS; i++) {
                place[i] = skipBlanks();
                kind[i] = scanToken(i);
                count = i + 1;
                if (kind[i] != WORD && kind[i] != NUMBER) {
                    break;
                }
            }
        }

        boolean isWord(int i, String word) {
            if (i < 0 || i >= count || kind[i] != WORD || value[i] != word.length()) {
                return false;
            }
            for (int k = 0; k < word.length(); k++) {
                if (tape.byteAt(place[i] + k) != word.charAt(k)) {
                    return false;
                }
            }
            return true;
        }

        private int skipBlanks() {
            while (next < tape.length && isBlank(tape.byteAt(next))) {
                next++;
            }
            return next;
        }

        private int scanToken(int i) {
            int first = tape.byteAt(next);
            if (first == NONE) {
                return END;
            }
            if (isLetter(first)) {
                return scanWord(i);
            }
            if (first == '-' || isDigit(first)) {
                return scanNumber(i, first == '-');
            }
            next++;
            return first == ';' ? SIGN : NO_TOKEN;
        }

        private int scanWord(int i) {
            int start = next;
            while (next < tape.length && isLetter(tape.byteAt(next))) {
                next++;
            }
            value[i] = next - start;
            return value[i] <= LONGEST_WORD ? WORD : NO_TOKEN;
        }

        private int scanNumber(int i, boolean negative) {
            if (negative) {
                next++;
            }
            int start = next;
            int size = 0;
            while (next < tape.length && isDigit(tape.byteAt(next))) {
                // Behind five digits it is no TOKEN and needs no value.
                if (next - start < MOST_DIGITS) {
                    size = size * 10 + tape.byteAt(next) - '0';
                }
                next++;
            }
            value[i] = negative ? -size : size;
            int digits = next - start;
            boolean fits = digits >= 1 && digits <= MOST_DIGITS && !isLetter(tape.byteAt(next));
            return fits ? NUMBER : NO_TOKEN;
        }

        private static boolean isBlank(int sign) {
            return sign == 32 || sign == 10;
        }

        private static boolean isLetter(int sign) {
            return sign >= 'a' && sign <= 'z';
        }

        private static boolean isDigit(int sign) {
            return sign >= '0' && sign <= '9';
        }
    }

    /** Reads the lines of a tape into a draft and keeps the first FAULT that it meets. */
    private static final class Reader {
        static final int NO_TOKEN_HERE = 1;
        static final int WRONG_TOKEN = 2;
        static final int WRONG_NUMBER = 3;
        static final int TOLD_ALREADY = 4;
        static final int BURN_OUT_OF_ORDER = 5;

        final Scanner scanner;
        final Book draft;
        int found;
        int foundAt;
        /** Which token of the line is looked at. */
        private int current;

        Reader(Tape tape) {
            scanner = new Scanner(tape);
            draft = new Book();
            found = 0;
            foundAt = NONE;
        }

        /** True if the tape is a BOOK: the draft is that book then, led on. */
        boolean readTape() {
            scanner.restart();
            draft.clear();
            found = 0;
            foundAt = NONE;
            // One round more than there may be lines, so that a line too many is met.
            for (int i = 0; i <= MOST_LINES && found == 0; i++) {
                scanner.scanLine();
                current = 0;
                if (scanner.kind[0] == Scanner.END) {
                    break;
                }
                readLine();
            }
            if (found != 0) {
                return false;
            }
            draft.leadOn();
            return true;
        }

        private void readLine() {
            if (draft.lineCount >= MOST_LINES) {
                refuseToken();
                return;
            }
            draft.lineCount++;
            if (scanner.isWord(0, "leg")) {
                readLeg();
            } else if (scanner.isWord(0, "speed")) {
                readLast(draft.speed, number(0, LEVELS - 1), 100, 999);
            } else if (scanner.isWord(0, "wind")) {
                readWind();
            } else if (scanner.isWord(0, "burn")) {
                readBurn();
            } else if (scanner.isWord(0, "climb")) {
                readLast(draft.climb, number(0, LEVELS - 1), 0, 999);
            } else {
                readLast(draft.limit, limitTold(), 0, 60000);
            }
            wantSign();
        }

        private void readLeg() {
            int leg = draft.legCount;
            if (leg >= MOST_LEGS) {
                refuseToken();
                return;
            }
            draft.legCount++;
            draft.from[leg] = number(0, POINTS - 1);
            draft.to[leg] = number(0, POINTS - 1);
            if (draft.to[leg] == draft.from[leg]) {
                refuse(WRONG_NUMBER);
            }
            draft.miles[leg] = number(1, 999);
            draft.lowest[leg] = 0;
            draft.highest[leg] = LEVELS - 1;
            if (scanner.isWord(current + 1, "at")) {
                nextToken();
                draft.lowest[leg] = number(0, LEVELS - 1);
                draft.highest[leg] = number(draft.lowest[leg], LEVELS - 1);
            }
            draft.firstDay[leg] = 0;
            draft.lastDay[leg] = DAYS - 1;
            if (scanner.isWord(current + 1, "from")) {
                nextToken();
                draft.firstDay[leg] = number(0, DAYS - 1);
                draft.lastDay[leg] = number(draft.firstDay[leg], DAYS - 1);
            }
        }

        private void readWind() {
            int world = number(0, WORLDS - 1);
            int level = number(0, LEVELS - 1);
            int leg = number(0, draft.legCount - 1);
            readLast(draft.wind, windIndex(world, level, leg), -400, 400);
        }

        private void readBurn() {
            int level = number(0, LEVELS - 1);
            int band = number(0, BANDS - 1);
            int below = toldBurnBelow(level, band);
            int above = toldBurnAbove(level, band);
            int burn = readLast(draft.burn, burnIndex(level, band), 1, 9999);
            if (below != UNTOLD && burn < below || above != UNTOLD && burn > above) {
                refuse(BURN_OUT_OF_ORDER);
            }
        }

        /** Reads the last number of a line into a row, at an index that must be untold yet. */
        private int readLast(int[] row, int index, int low, int high) {
            if (index < 0 || index >= row.length) {
                return low;
            }
            if (row[index] != UNTOLD) {
                refuse(TOLD_ALREADY);
            }
            row[index] = number(low, high);
            return row[index];
        }

        /** Which limit the line's word tells; NONE, and a FAULT, if it is no word of a line. */
        private int limitTold() {
            if (scanner.isWord(0, "tank")) {
                return TANK;
            }
            if (scanner.isWord(0, "most")) {
                return MOST;
            }
            if (scanner.isWord(0, "land")) {
                return LAND;
            }
            if (scanner.isWord(0, "dry")) {
                return DRY;
            }
            refuseToken();
            return NONE;
        }

        private int toldBurnBelow(int level, int band) {
            int burn = UNTOLD;
            for (int b = band - 1; b >= 0 && burn == UNTOLD; b--) {
                burn = draft.burn[burnIndex(level, b)];
            }
            return burn;
        }

        private int toldBurnAbove(int level, int band) {
            int burn = UNTOLD;
            for (int b = band + 1; b < BANDS && burn == UNTOLD; b++) {
                burn = draft.burn[burnIndex(level, b)];
            }
            return burn;
        }

        /** The next number; behind a FAULT nothing is read on, and low stands in for it. */
        private int number(int low, int high) {
            nextToken();
            if (found != 0) {
                return low;
            }
            if (scanner.kind[current] != Scanner.NUMBER) {
                refuseToken();
                return low;
            }
            int value = scanner.value[current];
            if (value < low || value > high) {
                refuse(WRONG_NUMBER);
                return low;
            }
            return value;
        }

        private void wantSign() {
            nextToken();
            if (scanner.kind[current] != Scanner.SIGN) {
                refuseToken();
            }
        }

        private void nextToken() {
            if (found == 0 && current + 1 < scanner.count) {
                current++;
            }
        }

        private void refuseToken() {
            refuse(scanner.kind[current] == Scanner.NO_TOKEN ? NO_TOKEN_HERE : WRONG_TOKEN);
        }

        /** Tokens are met by their places and looked at by FAULTS upwards, so the first one stays. */
        private void refuse(int kind) {
            if (found == 0) {
                found = kind;
                foundAt = scanner.place[current];
            }
        }
    }

    /** What a text tells of legs, heights, winds and burns. */
    private static final class Book {
        int legCount;
        int lineCount;
        final int[] from = new int[MOST_LEGS];
        final int[] to = new int[MOST_LEGS];
        final int[] miles = new int[MOST_LEGS];
        final int[] lowest = new int[MOST_LEGS];
        final int[] highest = new int[MOST_LEGS];
        final int[] firstDay = new int[MOST_LEGS];
        final int[] lastDay = new int[MOST_LEGS];
        final int[] speed = new int[LEVELS];
        final int[] wind = new int[WORLDS * LEVELS * MOST_LEGS];
        final int[] burn = new int[LEVELS * BANDS];
        final int[] climb = new int[LEVELS];
        final int[] limit = new int[LIMITS];
        /** The CLIMBS from the ground to each STAGE together. */
        final int[] height = new int[STAGES];

        Book() {
            clear();
        }

        void clear() {
            legCount = 0;
            lineCount = 0;
            Arrays.fill(speed, UNTOLD);
            Arrays.fill(wind, UNTOLD);
            Arrays.fill(burn, UNTOLD);
            Arrays.fill(climb, UNTOLD);
            Arrays.fill(limit, UNTOLD);
        }

        /** Puts in what the text lacks. */
        void leadOn() {
            for (int level = 0; level < LEVELS; level++) {
                putIfUntold(speed, level, 400);
                putIfUntold(climb, level, 0);
                height[level + 1] = height[level] + climb[level];
                leadBurnsOn(level);
            }
            leadWindsOn();
            putIfUntold(limit, TANK, 30000);
            putIfUntold(limit, MOST, 60000);
            putIfUntold(limit, LAND, 60000);
            putIfUntold(limit, DRY, 0);
        }

        void take(Book other) {
            legCount = other.legCount;
            lineCount = other.lineCount;
            copy(other.from, from);
            copy(other.to, to);
            copy(other.miles, miles);
            copy(other.lowest, lowest);
            copy(other.highest, highest);
            copy(other.firstDay, firstDay);
            copy(other.lastDay, lastDay);
            copy(other.speed, speed);
            copy(other.wind, wind);
            copy(other.burn, burn);
            copy(other.climb, climb);
            copy(other.limit, limit);
            copy(other.height, height);
        }

        /** The CLIMBS from a STAGE to a LEVEL; none are below 0, so down it is nothing. */
        int climbsTo(int level, int stage) {
            return Math.max(0, height[level + 1] - height[stage]);
        }

        private void leadBurnsOn(int level) {
            int latest = 1000;
            for (int band = BANDS - 1; band >= 0; band--) {
                int burned = burn[burnIndex(level, band)];
                latest = burned == UNTOLD ? latest : burned;
            }
            for (int band = 0; band < BANDS; band++) {
                putIfUntold(burn, burnIndex(level, band), latest);
                latest = burn[burnIndex(level, band)];
            }
        }

        private void leadWindsOn() {
            for (int world = 0; world < WORLDS; world++) {
                for (int leg = 0; leg < legCount; leg++) {
                    int latest = 0;
                    for (int level = 0; level < LEVELS; level++) {
                        putIfUntold(wind, windIndex(world, level, leg), latest);
                        latest = wind[windIndex(world, level, leg)];
                    }
                }
            }
        }

        private static void putIfUntold(int[] row, int index, int number) {
            if (index >= 0 && index < row.length && row[index] == UNTOLD) {
                row[index] = number;
            }
        }

        private static void copy(int[] source, int[] target) {
            System.arraycopy(source, 0, target, 0, Math.min(source.length, target.length));
        }
    }

    /** The FLIGHT, and what legs take on it. */
    private static final class Flight {
        final Book book;
        boolean isSet;
        int from;
        int to;
        int day;
        int reserve;
        /** DRY and PAYLOAD together. */
        int weight;

        Flight(Book book) {
            this.book = book;
        }

        void set(int from, int to, int day, int payload, int reserve) {
            this.isSet = true;
            this.from = from;
            this.to = to;
            this.day = day;
            this.reserve = reserve;
            this.weight = book.limit[DRY] + payload;
        }

        /** The minutes of a LEG of the book; NONE if it can't be flown so. */
        int minutesOf(int leg, int level, int world) {
            boolean open = level >= book.lowest[leg] && level <= book.highest[leg]
                && day >= book.firstDay[leg] && day <= book.lastDay[leg];
            int pace = book.speed[level] + book.wind[windIndex(world, level, leg)];
            if (!open || pace < SLOWEST) {
                return NONE;
            }
            return (book.miles[leg] * 60 + pace - 1) / pace;
        }

        int fuelOf(int minutes, int level, int left) {
            int band = Math.min((weight + left) / BAND_WEIGHT, BANDS - 1);
            return (minutes * book.burn[burnIndex(level, band)] + 59) / 60;
        }

        /** The greatest amount left that, with the fuel it asks for, is not above what is ahead. */
        int greatestLeft(int minutes, int level, int ahead) {
            for (int band = BANDS - 1; band >= 0; band--) {
                int lowest = Math.max(0, band * BAND_WEIGHT - weight);
                int highest = band == BANDS - 1 ? ahead : (band + 1) * BAND_WEIGHT - 1 - weight;
                int left = Math.min(highest, ahead - fuelOf(minutes, level, lowest));
                if (left >= lowest) {
                    return left;
                }
            }
            return 0;
        }

        /** 0, or the first law that is broken with so much on the ground and at the end. */
        int brokenLaw(int ground, int atEnd) {
            if (ground > book.limit[TANK]) {
                return 1;
            }
            if (weight + ground > book.limit[MOST]) {
                return 2;
            }
            return weight + atEnd > book.limit[LAND] ? 3 : 0;
        }
    }

    /** A WAY by its LEGS and LEVELS, with the fuel left behind each by NEED. */
    private static final class Way {
        int count;
        int ground;
        final int[] leg = new int[MOST_LEGS];
        final int[] level = new int[MOST_LEGS];
        final int[] left = new int[MOST_LEGS];

        /** The STAGE from which the k-th LEG's climbs begin. */
        int stageAhead(int k) {
            return k >= 1 && k <= count ? level[k - 1] + 1 : 0;
        }

        void add(int nextLeg, int nextLevel, int nextLeft) {
            if (count < MOST_LEGS) {
                leg[count] = nextLeg;
                level[count] = nextLevel;
                left[count] = nextLeft;
                count++;
            }
        }
    }

    /** BEST of the FLIGHT in one WORLD, reckoned when it is first asked for. */
    private static final class Plan {
        final Book book;
        final Flight flight;
        final int world;
        final Way best = new Way();
        boolean hasWay;
        private boolean isPrepared;
        private boolean isBackReckoned;
        private boolean isCarryReckoned;
        private int carriable;
        private final int[] minutes = new int[MOST_LEGS * LEVELS];
        /** The least fuel with which one comes to the end, or back, by POINT and STAGE. */
        private final int[] onward = new int[POINTS * STAGES];
        private final int[] back = new int[POINTS * STAGES];
        /** The fuel on the ground for each amount that is carried on. */
        private final int[] groundCarrying = new int[MOST_CARRIED + 1];

        Plan(Book book, Flight flight, int world) {
            this.book = book;
            this.flight = flight;
            this.world = world;
        }

        void forget() {
            hasWay = false;
            isPrepared = false;
            isBackReckoned = false;
            isCarryReckoned = false;
        }

        void prepare() {
            if (isPrepared) {
                return;
            }
            isPrepared = true;
            for (int leg = 0; leg < book.legCount; leg++) {
                for (int level = 0; level < LEVELS; level++) {
                    minutes[legIndex(leg, level)] = flight.minutesOf(leg, level, world);
                }
            }
            reckonTo(flight.to, onward);
            findBest();
        }

        int minutesAlong(int k) {
            return k >= 0 && k < best.count ? minutes[legIndex(best.leg[k], best.level[k])] : NONE;
        }

        boolean canStartWith(int fuel) {
            return fuel >= best.ground && fuel <= MOST_FUEL;
        }

        /** What is left behind the k-th LEG of so much ahead of its climbs. */
        int fuelBehind(int k, int ahead) {
            if (k < 0 || k >= best.count) {
                return ahead;
            }
            int level = best.level[k];
            int climbed = ahead - book.climbsTo(level, best.stageAhead(k));
            return flight.greatestLeft(minutesAlong(k), level, climbed);
        }

        /** RETURN of the k-th POINT; TOO_MUCH if one can't. */
        int fuelHome(int k) {
            if (k < 1 || k > best.count) {
                return 0;
            }
            if (!isBackReckoned) {
                isBackReckoned = true;
                reckonTo(flight.from, back);
            }
            return back[stageIndex(book.to[best.leg[k - 1]], best.stageAhead(k))];
        }

        /** NEED of a way in this WORLD with so much at its end; NONE if it can't be flown. */
        int groundFor(Way way, int atEnd) {
            int fuel = atEnd;
            for (int k = way.count - 1; k >= 0; k--) {
                int level = way.level[k];
                int flown = minutes[legIndex(way.leg[k], level)];
                if (flown == NONE) {
                    return NONE;
                }
                fuel += flight.fuelOf(flown, level, fuel);
                fuel += book.climbsTo(level, way.stageAhead(k));
            }
            return fuel;
        }

        /** How much is carried on at least cost; NONE if BEST is not LEGAL. */
        int cheapestCarried(int here, int there) {
            reckonCarry();
            int cheapest = NONE;
            int least = 0;
            for (int x = 0; x < carriable; x++) {
                int cost = here * groundCarrying[x] - there * x;
                if (cheapest == NONE || cost < least) {
                    cheapest = x;
                    least = cost;
                }
            }
            return cheapest;
        }

        /** More carried on is more on the ground, so behind the first amount against the laws none keeps them. */
        private void reckonCarry() {
            if (isCarryReckoned) {
                return;
            }
            isCarryReckoned = true;
            carriable = 0;
            for (int x = 0; x <= MOST_CARRIED; x++) {
                int ground = groundFor(best, flight.reserve + x);
                if (flight.brokenLaw(ground, flight.reserve + x) != 0) {
                    break;
                }
                groundCarrying[x] = ground;
                carriable = x + 1;
            }
        }

        /**
         * Fills a row with the least fuel by which one comes from each POINT and STAGE to a goal.
         * No burn falls with the weight, so less at a LEG's end is less ahead of it, and a way that
         * comes to a POINT twice takes more than without that round: no LEG is taken twice, and
         * as many rounds as there are POINTS are enough.
         */
        private void reckonTo(int goal, int[] row) {
            Arrays.fill(row, TOO_MUCH);
            for (int stage = 0; stage < STAGES; stage++) {
                row[stageIndex(goal, stage)] = flight.reserve;
            }
            boolean changed = true;
            for (int round = 0; round < POINTS && changed; round++) {
                changed = false;
                for (int leg = 0; leg < book.legCount; leg++) {
                    for (int level = 0; level < LEVELS; level++) {
                        if (lower(leg, level, row)) {
                            changed = true;
                        }
                    }
                }
            }
        }

        /** Lowers what is needed at the LEG's first POINT; true if something went down. */
        private boolean lower(int leg, int level, int[] row) {
            int ahead = aheadOf(leg, level, row);
            if (ahead == TOO_MUCH) {
                return false;
            }
            boolean changed = false;
            for (int stage = 0; stage < STAGES; stage++) {
                int index = stageIndex(book.from[leg], stage);
                int wanted = ahead + book.climbsTo(level, stage);
                if (wanted < row[index]) {
                    row[index] = wanted;
                    changed = true;
                }
            }
            return changed;
        }

        /** The least fuel ahead of a LEG, its climbs behind one; TOO_MUCH if it leads nowhere. */
        private int aheadOf(int leg, int level, int[] row) {
            int flown = minutes[legIndex(leg, level)];
            int left = row[stageIndex(book.to[leg], level + 1)];
            if (flown == NONE || left == TOO_MUCH) {
                return TOO_MUCH;
            }
            return left + flight.fuelOf(flown, level, left);
        }

        /** Each end of BEST is itself the least from its POINT, so the first LEG that keeps the least is taken. */
        private void findBest() {
            best.count = 0;
            best.ground = onward[stageIndex(flight.from, 0)];
            hasWay = best.ground != TOO_MUCH;
            if (!hasWay) {
                return;
            }
            int point = flight.from;
            int wanted = best.ground;
            for (int i = 0; i < MOST_LEGS && point != flight.to; i++) {
                int found = firstThatKeeps(point, best.stageAhead(best.count), wanted);
                if (found == NONE) {
                    break;
                }
                int leg = found / LEVELS;
                int level = found % LEVELS;
                point = book.to[leg];
                wanted = onward[stageIndex(point, level + 1)];
                best.add(leg, level, wanted);
            }
        }

        /** The first LEG and LEVEL from a POINT and STAGE by which just so much is needed, as one index. */
        private int firstThatKeeps(int point, int stage, int wanted) {
            for (int leg = 0; leg < book.legCount; leg++) {
                if (book.from[leg] != point) {
                    continue;
                }
                for (int level = 0; level < LEVELS; level++) {
                    if (aheadOf(leg, level, onward) + book.climbsTo(level, stage) == wanted) {
                        return legIndex(leg, level);
                    }
                }
            }
            return NONE;
        }
    }
}
