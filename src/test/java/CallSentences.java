/** "Promise 1" to "Promise 20": what each call answers at its bounds, and what a refused call leaves as it was. */
final class CallSentences {
    private static final int LOW = Integer.MIN_VALUE;
    private static final int HIGH = Integer.MAX_VALUE;
    private static final int BLANKS = 0x20202020;
    private static final int[] NO_WORLDS = {LOW, -2, -1, 3, 4, HIGH};

    private final Sentences said;

    CallSentences(Sentences said) {
        this.said = said;
    }

    void walk() {
        walkTape();
        walkBook();
        walkFlight();
        walkBest();
        walkFuel();
    }

    private void walkTape() {
        said.section("What it is");
        said.holds("An object is used for at most 512 calls after it has been made; what later calls answer is free.",
            this::fiveHundredTwelveCalls);
        said.section("Promise 1: A new object");
        said.holds("An empty BOOK.", this::emptyBook);
        said.section("Promise 2: feed");
        said.holds("Twenty bytes come behind those on the TAPE,", this::twentyBytes);
        said.holds("of each number the highest first:", this::highestFirst);
        said.holds("how many there are;", this::howManyBytes);
        said.holds("NONE, and nothing comes, if there would be more than 1,000.", this::moreThanThousand);
        said.section("Promise 3: end");
        said.holds("The TAPE has its first n bytes: n;", this::firstBytes);
        said.holds("NONE, doing nothing, if it has not so many, or n is below 0.", this::notSoMany);
    }

    private void walkBook() {
        said.section("Promise 4: book");
        said.holds("The TAPE (empty then) is the BOOK", this::tapeIsBook);
        said.holds("(FLIGHT is none then):", this::flightIsNone);
        said.holds("how many LEGS;", this::howManyLegs);
        said.holds("NONE: a FAULT (all stays).", this::allStays);
        said.section("Promise 5: fault");
        said.holds("Of the latest book() what 0: its FAULT (0), 1: its place (NONE).", this::latestFault);
        said.holds("NONE for another what.", this::anotherFault);
    }

    private void walkFlight() {
        said.section("Promise 6: flight");
        said.holds("The FLIGHT: from a POINT to another one (different ones),", this::flightPoints);
        said.holds("on a DAY,", this::flightDay);
        said.holds("with a PAYLOAD (0 .. 30000)", this::flightPayload);
        said.holds("and RESERVE (0 .. 10000): true;", this::flightReserve);
        said.holds("false, doing nothing, if it can't be.", this::flightRefused);
        said.section("Promise 7: told");
        said.holds("Of the BOOK what 0: SPEED of LEVEL a,", this::toldSpeed);
        said.holds("1: WIND of WORLD a, LEVEL b, LEG c,", this::toldWind);
        said.holds("2: BURN of LEVEL a, BAND b,", this::toldBurn);
        said.holds("3: CLIMB to LEVEL a,", this::toldClimb);
        said.holds("4: TANK, 5: MOST, 6: LAND, 7: DRY;", this::toldLimits);
        said.holds("-1000 if there is none such.", this::toldNone);
        said.section("Promise 8: minutes");
        said.holds("The minutes of a LEG on a LEVEL in a WORLD on the FLIGHT's DAY;", this::minutesOnDay);
        said.holds("NONE if it can't be flown,", this::minutesNotFlown);
        said.holds("or there is no FLIGHT,", this::minutesNoFlight);
        said.holds("or no such.", this::minutesNoSuch);
        said.section("Promise 9: fuel");
        said.holds("Its fuel, if so much (0 .. 60000) is left at its end;", this::fuelLeft);
        said.holds("NONE likewise.", this::fuelNone);
    }

    private void walkBest() {
        said.section("Promise 10: need");
        said.holds("NEED of BEST in a WORLD;", this::need);
        said.holds("NONE if there is no WAY, FLIGHT or WORLD.", this::needNone);
        said.section("Promise 11: legs");
        said.holds("How many LEGS BEST has;", this::legs);
        said.holds("NONE likewise.", this::legsNone);
        said.section("Promise 12: leg");
        said.holds("Of its k-th LEG what 0: its number, 1: the LEVEL, 2: minutes, 3: its fuel by NEED.", this::leg);
        said.holds("NONE likewise,", this::legNone);
        said.holds("or if there is none such.", this::legNoneSuch);
        said.section("Promise 13: time");
        said.holds("Its minutes together;", this::time);
        said.holds("NONE likewise.", this::timeNone);
        said.section("Promise 14: legal");
        said.holds("0 if BEST is LEGAL, else the first law that is broken: 1 TANK, 2 MOST, 3 LAND;", this::legal);
        said.holds("NONE likewise.", this::legalNone);
        said.section("Promise 15: borne");
        said.holds("BORNE for n WORLDS (1 .. 3);", this::borne);
        said.holds("NONE if there is no such WAY, or one can't be.", this::borneNone);
    }

    private void walkFuel() {
        said.section("Promise 16: at");
        said.holds("Fuel at the k-th POINT of BEST (0 the first: ahead of the CLIMBS), with so much on the ground;", this::at);
        said.holds("NONE if it can't be asked.", this::atNone);
        said.section("Promise 17: home");
        said.holds("RETURN of the k-th POINT;", this::home);
        said.holds("NONE if one can't return,", this::homeNoReturn);
        said.holds("or it can't be asked", this::homeNone);
        said.holds("(of the first: 0).", this::homeOfTheFirst);
        said.section("Promise 18: lastReturn");
        said.holds("The LAST RETURN;", this::lastReturn);
        said.holds("NONE if it can't be asked", this::lastReturnNone);
        said.holds("(0 if just the first has one).", this::lastReturnJustFirst);
        said.section("Promise 19: carry");
        said.holds("CARRIED ON by PRICES (0 .. 1000) here and there: x;", this::carryPrices);
        said.holds("NONE if it can't be asked,", this::carryNone);
        said.holds("or BEST is not LEGAL.", this::carryNotLegal);
        said.section("Promise 20: about");
        said.holds("What 0: LEGS, 1: lines,", this::aboutBook);
        said.holds("2: 1 if there is a FLIGHT, else 0,", this::aboutFlight);
        said.holds("3: bytes on the TAPE.", this::aboutTape);
        said.holds("NONE for another what.", this::aboutNone);
    }

    /** There and back by two LEGS of an hour, 60 each; NEED is 175, as LEVEL 0 is 5 above the ground. */
    private static final String BOOK = "leg 0 1 400 at 0 0; leg 1 2 400 at 0 0; leg 1 0 400 at 0 0; leg 2 1 400 at 0 0; "
        + "burn 0 0 60; climb 0 5;";

    private static FlightDesk planned() {
        FlightDesk desk = Check.desk(BOOK);
        desk.flight(0, 2, 7, 30, 50);
        return desk;
    }

    /** All that the planned desk answers stands as it was. */
    private void stands(String when, FlightDesk desk) {
        said.due("about(0) " + when, desk.about(0), 4);
        said.due("about(1) " + when, desk.about(1), 6);
        said.due("about(2) " + when, desk.about(2), 1);
        said.due("told(2, 0, 0) " + when, desk.told(2, 0, 0, 0), 60);
        said.due("told(3, 0) " + when, desk.told(3, 0, 0, 0), 5);
        said.due("minutes(0, 0, 0) " + when, desk.minutes(0, 0, 0), 60);
        said.due("need(0) " + when, desk.need(0), 175);
        said.due("leg(0, 1, 0) " + when, desk.leg(0, 1, 0), 1);
        said.due("home(0, 1) " + when, desk.home(0, 1), 110);
        said.due("carry(0, 1, 2) " + when, desk.carry(0, 1, 2), 500);
    }

    // ---- the tape

    private void fiveHundredTwelveCalls() {
        FlightDesk desk = planned();
        FlightDesk long512 = new FlightDesk();
        int calls = 0;
        for (int i = 0; i < 12; i++) {
            String four = (BOOK + " ".repeat(240)).substring(20 * i, 20 * i + 20);
            long512.feed(word(four, 0), word(four, 4), word(four, 8), word(four, 12), word(four, 16));
            calls++;
        }
        long512.book();
        long512.flight(0, 2, 7, 30, 50);
        calls += 2;
        while (calls < 511) {
            said.due("call " + calls, long512.carry(0, calls % 7, 3), desk.carry(0, calls % 7, 3));
            calls++;
        }
        said.due("the 512th call", long512.need(0), 175);
    }

    private static int word(String text, int start) {
        return text.charAt(start) << 24 | text.charAt(start + 1) << 16 | text.charAt(start + 2) << 8 | text.charAt(start + 3);
    }

    private void emptyBook() {
        FlightDesk desk = new FlightDesk();
        for (int what = 0; what < 4; what++) {
            said.due("about(" + what + ")", desk.about(what), 0);
        }
        said.due("fault(0)", desk.fault(0), 0);
        said.due("fault(1)", desk.fault(1), -1);
        said.due("told(0, 0)", desk.told(0, 0, 0, 0), 400);
        said.due("told(1, 0, 0, 0)", desk.told(1, 0, 0, 0), -1000);
        said.due("told(2, 0, 0)", desk.told(2, 0, 0, 0), 1000);
        said.due("told(3, 0)", desk.told(3, 0, 0, 0), 0);
        said.due("told(4)", desk.told(4, 0, 0, 0), 30000);
        said.due("told(5)", desk.told(5, 0, 0, 0), 60000);
        said.due("told(6)", desk.told(6, 0, 0, 0), 60000);
        said.due("told(7)", desk.told(7, 0, 0, 0), 0);
        said.due("end(1)", desk.end(1), -1);
        said.due("need(0)", desk.need(0), -1);
        said.due("book()", desk.book(), 0);
        said.due("flight", desk.flight(0, 1, 0, 0, 0), true);
        said.due("need(0) on a FLIGHT", desk.need(0), -1);
        said.due("minutes(0, 0, 0) on a FLIGHT", desk.minutes(0, 0, 0), -1);
    }

    private void twentyBytes() {
        FlightDesk desk = new FlightDesk();
        // "dry 1234" and "5;" with blanks, in two feeds: the second comes behind the first.
        said.due("feed", desk.feed(0x20202020, 0x20202020, 0x20202020, 0x64727920, 0x31323334), 20);
        said.due("feed", desk.feed(0x353b2020, 0x20202020, 0x20202020, 0x20202020, 0x20202020), 40);
        said.due("book", desk.book(), 0);
        said.due("told(7)", desk.told(7, 0, 0, 0), 12345);
        // Each of the five numbers has its place.
        said.due("feed", desk.feed(0x6c656720, 0x30203120, 0x34303020, 0x61742030, 0x2030203b), 20);
        said.due("book of leg 0 1 400 at 0 0 ;", desk.book(), 1);
    }

    private void highestFirst() {
        FlightDesk desk = new FlightDesk();
        said.due("feed", desk.feed(0x64727939, 0x38373635, 0x3b202020, BLANKS, BLANKS), 20);
        said.due("book of dry98765;", desk.book(), -1);
        said.due("its FAULT", desk.fault(0), 3);
        said.due("its place", desk.fault(1), 3);
        desk.end(0);
        said.due("feed", desk.feed(0x64727931, 0x32333435, 0x3b202020, BLANKS, BLANKS), 20);
        said.due("book of dry12345;", desk.book(), 0);
        said.due("told(7)", desk.told(7, 0, 0, 0), 12345);
        // Bytes from 128 on: a number below 0 has them ahead.
        int[] numbers = {0x80202020, 0x20ff2020, 0x2020a020, 0x20202080, LOW, HIGH, -1, 0};
        int[] places = {0, 1, 2, 3, 0, 0, 0, 0};
        for (int i = 0; i < numbers.length; i++) {
            for (int at = 0; at < 5; at++) {
                FlightDesk other = new FlightDesk();
                int[] row = {BLANKS, BLANKS, BLANKS, BLANKS, BLANKS};
                row[at] = numbers[i];
                other.feed(row[0], row[1], row[2], row[3], row[4]);
                said.due("book", other.book(), -1);
                said.due("fault(0)", other.fault(0), 1);
                said.due("fault(1) of number " + at + ", " + numbers[i], other.fault(1), 4 * at + places[i]);
            }
        }
    }

    private static int feedBlanks(FlightDesk desk) {
        return desk.feed(BLANKS, BLANKS, BLANKS, BLANKS, BLANKS);
    }

    private void howManyBytes() {
        FlightDesk desk = new FlightDesk();
        for (int i = 1; i <= 50; i++) {
            said.due("feed " + i, feedBlanks(desk), 20 * i);
            said.due("about(3)", desk.about(3), 20 * i);
        }
        desk.end(3);
        said.due("feed behind 3", feedBlanks(desk), 23);
    }

    private void moreThanThousand() {
        FlightDesk desk = new FlightDesk();
        for (int i = 0; i < 50; i++) {
            feedBlanks(desk);
        }
        int[] fits = {1000, 999, 990, 981, 980, 979, 500};
        for (int length : fits) {
            while (desk.about(3) < 980) {
                feedBlanks(desk);
            }
            if (desk.about(3) < length) {
                feedBlanks(desk);
            }
            said.due("end(" + length + ")", desk.end(length), length);
            boolean more = length + 20 > 1000;
            said.due("feed behind " + length, desk.feed(-1, -1, -1, -1, -1), more ? -1 : length + 20);
            said.due("about(3) behind " + length, desk.about(3), more ? length : length + 20);
            desk.end(length);
        }
        // What was refused is not there: blanks up to 981 stay a BOOK, with the bytes behind them as they were.
        desk = new FlightDesk();
        Check.feed(desk, " ".repeat(990) + "dry 12345;");
        desk.end(990);
        said.due("refused", desk.feed(-1, -1, -1, -1, -1), -1);
        said.due("refused again", desk.feed(-1, -1, -1, -1, -1), -1);
        said.due("about(3)", desk.about(3), 990);
        said.due("book", desk.book(), 0);
        said.due("about(1)", desk.about(1), 0);
        said.due("the emptied TAPE has room", feedBlanks(desk), 20);
    }

    private void firstBytes() {
        FlightDesk desk = new FlightDesk();
        said.due("end(0) of an empty TAPE", desk.end(0), 0);
        Check.feed(desk, "dry 5;tank 6;");
        said.due("end(13) of 13", desk.end(13), 13);
        said.due("end(12) of 13", desk.end(12), 12);
        said.due("about(3)", desk.about(3), 12);
        said.due("end(6) of 12", desk.end(6), 6);
        said.due("book", desk.book(), 0);
        said.due("about(1)", desk.about(1), 1);
        Check.feed(desk, "dry 5;");
        said.due("end(4)", desk.end(4), 4);
        Check.feed(desk, "7;");
        said.due("book of dry 7;", desk.book(), 0);
        said.due("told(7)", desk.told(7, 0, 0, 0), 7);
        Check.feed(desk, "?");
        said.due("end(0)", desk.end(0), 0);
        said.due("about(3)", desk.about(3), 0);
        said.due("book of nothing", desk.book(), 0);
        desk.end(0);
        Check.feed(desk, " ".repeat(1000));
        said.due("end(1000)", desk.end(1000), 1000);
        said.due("end(999)", desk.end(999), 999);
    }

    private void notSoMany() {
        FlightDesk desk = new FlightDesk();
        int[] none = {1, -1, 20, 1000, 1001, LOW, HIGH};
        for (int n : none) {
            said.due("end(" + n + ") of an empty TAPE", desk.end(n), -1);
            said.due("about(3)", desk.about(3), 0);
        }
        Check.feed(desk, "dry 5;");
        int[] others = {7, 20, 1000, 1001, -1, -6, LOW, HIGH};
        for (int n : others) {
            said.due("end(" + n + ") of 6", desk.end(n), -1);
            said.due("about(3)", desk.about(3), 6);
        }
        desk.end(5);
        said.due("end(6) of 5, that were 6", desk.end(6), -1);
        said.due("about(3)", desk.about(3), 5);
        Check.feed(desk, ";");
        said.due("book", desk.book(), 0);
        said.due("end(6) behind book()", desk.end(6), -1);
        said.due("told(7)", desk.told(7, 0, 0, 0), 5);
        Check.feed(desk, " ".repeat(1000));
        said.due("end(1001) of 1000", desk.end(1001), -1);
        said.due("about(3)", desk.about(3), 1000);
    }

    // ---- the book

    private void tapeIsBook() {
        FlightDesk desk = planned();
        said.due("about(3)", desk.about(3), 0);
        Check.feed(desk, "leg 3 4 400; dry 5;");
        said.due("book", desk.book(), 1);
        said.due("about(3)", desk.about(3), 0);
        said.due("about(0)", desk.about(0), 1);
        said.due("about(1)", desk.about(1), 2);
        said.due("told(7)", desk.told(7, 0, 0, 0), 5);
        said.due("the burn before", desk.told(2, 0, 0, 0), 1000);
        said.due("the climb before", desk.told(3, 0, 0, 0), 0);
        said.due("a LEG before", desk.told(1, 0, 0, 1), -1000);
        said.due("book of an empty TAPE", desk.book(), 0);
        said.due("about(0)", desk.about(0), 0);
        said.due("about(1)", desk.about(1), 0);
        said.due("told(7)", desk.told(7, 0, 0, 0), 0);
        // Winds of a BOOK before are not led on into the next.
        desk = Check.desk("leg 0 1 400; wind 0 0 0 100; wind 0 3 0 -100; speed 0 500; most 1; land 2; tank 3;");
        Check.feed(desk, "leg 0 1 400;");
        said.due("book", desk.book(), 1);
        for (int level = 0; level < 6; level++) {
            said.due("wind", desk.told(1, 0, level, 0), 0);
            said.due("speed", desk.told(0, level, 0, 0), 400);
        }
        said.due("told(4)", desk.told(4, 0, 0, 0), 30000);
        said.due("told(5)", desk.told(5, 0, 0, 0), 60000);
        said.due("told(6)", desk.told(6, 0, 0, 0), 60000);
    }

    private void flightIsNone() {
        FlightDesk desk = planned();
        said.due("need", desk.need(0), 175);
        Check.feed(desk, BOOK);
        said.due("book", desk.book(), 4);
        said.due("about(2)", desk.about(2), 0);
        hasNoPlan("without a FLIGHT", desk, 0);
        said.due("minutes", desk.minutes(0, 0, 0), -1);
        said.due("borne", desk.borne(1), -1);
        desk.flight(0, 2, 7, 30, 50);
        said.due("need anew", desk.need(0), 175);
        desk = planned();
        said.due("book of nothing", desk.book(), 0);
        said.due("about(2)", desk.about(2), 0);
    }

    private void howManyLegs() {
        said.due("none", new FlightDesk().book(), 0);
        int[] counts = {0, 1, 2, 15, 16};
        for (int count : counts) {
            said.taken(count, "leg 0 1 5;".repeat(count) + "dry 5;");
        }
    }

    private void allStays() {
        FlightDesk desk = planned();
        stands("at first", desk);
        String[] texts = {"leg 3 4 5; burn 0 0 9999; climb 0 9; dry 5; ?", "dry 5", "dry 60001;", ";", "dry 5; dry 6;",
            "burn 0 0 9; burn 0 1 8;", "leg 0 1 5;".repeat(17), "leg 3 3 5;", " ".repeat(999) + "?"};
        for (String text : texts) {
            desk.end(0);
            Check.feed(desk, text);
            said.due("book of " + text, desk.book(), -1);
            stands("behind " + text, desk);
            said.due("about(3) behind " + text, desk.about(3), text.length());
            said.due("book again", desk.book(), -1);
        }
        // The TAPE stays, so the text can be gone on with.
        desk.end(0);
        Check.feed(desk, "leg 3 4 400; dry 5");
        said.due("book", desk.book(), -1);
        said.due("about(3)", desk.about(3), 18);
        Check.feed(desk, ";");
        said.due("book, gone on with", desk.book(), 1);
        said.due("told(7)", desk.told(7, 0, 0, 0), 5);
    }

    private void latestFault() {
        FlightDesk desk = new FlightDesk();
        said.due("fault(0) ahead of all", desk.fault(0), 0);
        said.due("fault(1) ahead of all", desk.fault(1), -1);
        String[] texts = {"?", "dry;", "dry 60001;", "dry 5; dry 6;", "burn 0 0 9; burn 0 1 8;"};
        int[] places = {0, 3, 4, 7, 21};
        for (int i = 0; i < 5; i++) {
            desk.end(0);
            Check.feed(desk, texts[i]);
            desk.book();
            said.due("fault(0) of " + texts[i], desk.fault(0), i + 1);
            said.due("fault(1) of " + texts[i], desk.fault(1), places[i]);
            desk.end(0);
            desk.flight(0, 1, 0, 0, 0);
            said.due("fault(0) stays", desk.fault(0), i + 1);
            said.due("fault(1) stays", desk.fault(1), places[i]);
        }
        said.due("book", desk.book(), 0);
        said.due("fault(0) of a BOOK", desk.fault(0), 0);
        said.due("fault(1) of a BOOK", desk.fault(1), -1);
    }

    private void anotherFault() {
        FlightDesk desk = new FlightDesk();
        Check.feed(desk, "?");
        desk.book();
        int[] others = {LOW, -2, -1, 2, 3, HIGH};
        for (int what : others) {
            said.due("fault(" + what + ")", desk.fault(what), -1);
            said.due("fault(" + what + ") of a new object", new FlightDesk().fault(what), -1);
        }
    }

    // ---- the flight

    /** Each number of a FLIGHT alone at and beyond its bounds. */
    private void bounds(int which, int low, int high) {
        int[] rows = {low, high, low - 1, high + 1, LOW, HIGH};
        for (int i = 0; i < rows.length; i++) {
            int[] f = {5, 6, 0, 0, 0};
            f[which] = rows[i];
            FlightDesk desk = new FlightDesk();
            boolean got = desk.flight(f[0], f[1], f[2], f[3], f[4]);
            said.due("flight with " + rows[i] + " as number " + which, got, i < 2);
            said.due("about(2)", desk.about(2), i < 2 ? 1 : 0);
        }
    }

    private void flightPoints() {
        bounds(0, 0, 9);
        bounds(1, 0, 9);
        FlightDesk desk = new FlightDesk();
        for (int point = 0; point < 10; point++) {
            said.due("flight from " + point + " to itself", desk.flight(point, point, 0, 0, 0), false);
            said.due("about(2)", desk.about(2), 0);
        }
        // From and to are not the same thing.
        desk = Check.desk("leg 9 0 400;");
        said.due("flight(9, 0)", desk.flight(9, 0, 0, 0, 0), true);
        said.due("need", desk.need(0), 1000);
        said.due("flight(0, 9)", desk.flight(0, 9, 0, 0, 0), true);
        said.due("need", desk.need(0), -1);
    }

    private void flightDay() {
        bounds(2, 0, 999);
        FlightDesk desk = Check.desk("leg 0 1 400 from 999 999; leg 0 1 800 from 0 0;");
        desk.flight(0, 1, 999, 0, 0);
        said.due("need on 999", desk.need(0), 1000);
        desk.flight(0, 1, 0, 0, 0);
        said.due("need on 0", desk.need(0), 2000);
        desk.flight(0, 1, 1, 0, 0);
        said.due("need on 1", desk.need(0), -1);
    }

    private void flightPayload() {
        bounds(3, 0, 30000);
        FlightDesk desk = Check.desk("leg 0 1 400 at 0 0; burn 0 0 60; most 30060;");
        desk.flight(0, 1, 0, 30000, 0);
        said.due("MOST full by 30000", desk.legal(0), 0);
        desk.flight(0, 1, 0, 30000, 1);
        said.due("above MOST", desk.legal(0), 2);
    }

    private void flightReserve() {
        bounds(4, 0, 10000);
        FlightDesk desk = Check.desk("leg 0 1 400 at 0 0; burn 0 0 60;");
        desk.flight(0, 1, 0, 0, 10000);
        said.due("need", desk.need(0), 10060);
        desk.flight(0, 1, 0, 0, 0);
        said.due("need", desk.need(0), 60);
    }

    private void flightRefused() {
        int[][] wrong = {{0, 0, 7, 30, 50}, {-1, 2, 7, 30, 50}, {10, 2, 7, 30, 50}, {0, -1, 7, 30, 50}, {0, 10, 7, 30, 50},
            {1, 2, -1, 30, 50}, {1, 2, 1000, 30, 50}, {1, 2, 7, -1, 50}, {1, 2, 7, 30001, 50}, {1, 2, 7, 30, -1},
            {1, 2, 7, 30, 10001}, {LOW, LOW, LOW, LOW, LOW}, {HIGH, HIGH, HIGH, HIGH, HIGH}, {2, 2, 7, 30, 50}};
        FlightDesk desk = planned();
        FlightDesk none = Check.desk(BOOK);
        for (int[] w : wrong) {
            said.due("flight", desk.flight(w[0], w[1], w[2], w[3], w[4]), false);
            stands("behind a refused flight", desk);
            said.due("flight", none.flight(w[0], w[1], w[2], w[3], w[4]), false);
            said.due("about(2)", none.about(2), 0);
            said.due("need", none.need(0), -1);
        }
    }

    // ---- what is told

    /** What is told is there for 0 .. high of one argument, and for no other. */
    private void toldBounds(FlightDesk desk, int what, int which, int high) {
        int[] numbers = {0, high, -1, high + 1, LOW, HIGH};
        for (int i = 0; i < numbers.length; i++) {
            int[] a = {0, 0, 0};
            a[which] = numbers[i];
            boolean none = desk.told(what, a[0], a[1], a[2]) == -1000;
            said.due("told(" + what + ", " + a[0] + ", " + a[1] + ", " + a[2] + ") is none", none, i >= 2);
        }
    }

    private void toldSpeed() {
        FlightDesk desk = Check.desk("speed 0 100; speed 5 999;");
        toldBounds(desk, 0, 0, 5);
        said.due("told(0, 0)", desk.told(0, 0, LOW, HIGH), 100);
        said.due("told(0, 5)", desk.told(0, 5, -1, 99), 999);
        said.due("told(0, 4)", desk.told(0, 4, 0, 0), 400);
    }

    private void toldWind() {
        FlightDesk desk = Check.desk("leg 0 1 5;".repeat(16) + "wind 2 5 15 400; wind 0 0 0 -400;");
        toldBounds(desk, 1, 0, 2);
        toldBounds(desk, 1, 1, 5);
        toldBounds(desk, 1, 2, 15);
        said.due("told(1, 2, 5, 15)", desk.told(1, 2, 5, 15), 400);
        said.due("told(1, 0, 0, 0)", desk.told(1, 0, 0, 0), -400);
        said.due("told(1, 1, 0, 0)", desk.told(1, 1, 0, 0), 0);
        said.due("told(1, 0, 0, 1)", desk.told(1, 0, 0, 1), 0);
        toldBounds(Check.desk("leg 0 1 5; leg 0 1 5;"), 1, 2, 1);
        said.due("without LEGS", new FlightDesk().told(1, 0, 0, 0), -1000);
    }

    private void toldBurn() {
        FlightDesk desk = Check.desk("burn 5 4 9999; burn 5 3 1; burn 0 0 7;");
        toldBounds(desk, 2, 0, 5);
        toldBounds(desk, 2, 1, 4);
        said.due("told(2, 5, 4)", desk.told(2, 5, 4, HIGH), 9999);
        said.due("told(2, 5, 3)", desk.told(2, 5, 3, LOW), 1);
        said.due("told(2, 0, 4)", desk.told(2, 0, 4, 0), 7);
    }

    private void toldClimb() {
        FlightDesk desk = Check.desk("climb 0 1; climb 5 999;");
        toldBounds(desk, 3, 0, 5);
        said.due("told(3, 0)", desk.told(3, 0, LOW, HIGH), 1);
        said.due("told(3, 5)", desk.told(3, 5, 0, 0), 999);
        said.due("told(3, 4)", desk.told(3, 4, 0, 0), 0);
    }

    private void toldLimits() {
        FlightDesk desk = Check.desk("tank 1; most 2; land 3; dry 4;");
        for (int what = 4; what < 8; what++) {
            said.due("told(" + what + ")", desk.told(what, 0, 0, 0), what - 3);
            said.due("told(" + what + ") by any others", desk.told(what, LOW, -1, HIGH), what - 3);
        }
    }

    private void toldNone() {
        FlightDesk desk = planned();
        int[] whats = {LOW, -1000, -1, 8, 9, HIGH};
        for (int what : whats) {
            said.due("told(" + what + ")", desk.told(what, 0, 0, 0), -1000);
        }
        said.due("LEG 4 of 4", desk.told(1, 0, 0, 4), -1000);
        said.due("a wind of -400 is one", Check.desk("leg 0 1 5; wind 0 0 0 -400;").told(1, 0, 0, 0), -400);
    }

    // ---- a leg

    private void minutesOnDay() {
        FlightDesk desk = Check.desk("leg 0 1 400 from 7 8; wind 2 0 0 -200;");
        int[] days = {6, 7, 8, 9};
        for (int day : days) {
            desk.flight(3, 4, day, 0, 0);
            boolean can = day == 7 || day == 8;
            said.due("WORLD 0 on " + day, desk.minutes(0, 0, 0), can ? 60 : -1);
            said.due("WORLD 2 on " + day, desk.minutes(0, 5, 2), can ? 120 : -1);
        }
    }

    private void minutesNotFlown() {
        FlightDesk desk = Check.desk("leg 0 1 50 at 1 4; wind 0 1 0 -350; wind 0 2 0 -351; wind 0 3 0 -400; wind 0 4 0 400;");
        desk.flight(0, 1, 0, 0, 0);
        int[] want = {-1, 60, -1, -1, 4, -1};
        for (int level = 0; level < 6; level++) {
            said.due("minutes(0, " + level + ", 0)", desk.minutes(0, level, 0), want[level]);
        }
    }

    private void minutesNoFlight() {
        FlightDesk desk = Check.desk("leg 0 1 400;");
        said.due("no FLIGHT", desk.minutes(0, 0, 0), -1);
        desk.flight(0, 0, 0, 0, 0);
        said.due("a refused FLIGHT", desk.minutes(0, 0, 0), -1);
        desk.flight(0, 1, 0, 0, 0);
        said.due("a FLIGHT", desk.minutes(0, 0, 0), 60);
    }

    /** LEG 0 .. 15, LEVEL 0 .. 5 and WORLD 0 .. 2 are there, and no other. */
    private void legBounds(boolean fuel) {
        FlightDesk desk = Check.desk("leg 0 1 400;".repeat(16));
        desk.flight(0, 1, 0, 0, 0);
        int[] highs = {15, 5, 2};
        for (int which = 0; which < 3; which++) {
            int[] numbers = {0, highs[which], -1, highs[which] + 1, LOW, HIGH};
            for (int i = 0; i < numbers.length; i++) {
                int[] a = {0, 0, 0};
                a[which] = numbers[i];
                int got = fuel ? desk.fuel(a[0], a[1], a[2], 0) : desk.minutes(a[0], a[1], a[2]);
                said.due("of " + a[0] + ", " + a[1] + ", " + a[2], got, i >= 2 ? -1 : fuel ? 1000 : 60);
            }
        }
    }

    private void minutesNoSuch() {
        legBounds(false);
        FlightDesk desk = Check.desk("leg 0 1 400;");
        desk.flight(0, 1, 0, 0, 0);
        said.due("LEG 1 of one", desk.minutes(1, 0, 0), -1);
        said.due("of none", new FlightDesk().minutes(0, 0, 0), -1);
    }

    private void fuelLeft() {
        FlightDesk desk = Check.desk("leg 0 1 400 at 0 0; burn 0 0 60; burn 0 4 120;");
        desk.flight(0, 1, 0, 0, 0);
        int[][] rows = {{0, 60}, {3999, 60}, {4000, 120}, {60000, 120}, {-1, -1}, {60001, -1}, {LOW, -1}, {HIGH, -1}};
        for (int[] row : rows) {
            said.due("fuel(0, 0, 0, " + row[0] + ")", desk.fuel(0, 0, 0, row[0]), row[1]);
        }
    }

    private void fuelNone() {
        legBounds(true);
        FlightDesk desk = Check.desk("leg 0 1 50 at 1 2 from 5 6; wind 0 1 0 -350; wind 0 2 0 -351;");
        said.due("no FLIGHT", desk.fuel(0, 1, 0, 0), -1);
        desk.flight(0, 1, 5, 0, 0);
        int[] want = {-1, 1000, -1, -1};
        for (int level = 0; level < 4; level++) {
            said.due("fuel(0, " + level + ", 0, 0)", desk.fuel(0, level, 0, 0), want[level]);
        }
        said.due("LEG 1 of one", desk.fuel(1, 1, 0, 0), -1);
        desk.flight(0, 1, 4, 0, 0);
        said.due("none of its days", desk.fuel(0, 1, 0, 0), -1);
    }

    // ---- BEST

    private void hasNoPlan(String when, FlightDesk desk, int world) {
        said.due("need " + when, desk.need(world), -1);
        said.due("legs " + when, desk.legs(world), -1);
        for (int what = 0; what < 4; what++) {
            said.due("leg " + when, desk.leg(world, 0, what), -1);
        }
        said.due("time " + when, desk.time(world), -1);
        said.due("legal " + when, desk.legal(world), -1);
        said.due("at " + when, desk.at(world, 60000, 0), -1);
        said.due("home " + when, desk.home(world, 0), -1);
        said.due("lastReturn " + when, desk.lastReturn(world, 60000), -1);
        said.due("carry " + when, desk.carry(world, 1, 1), -1);
    }

    /** Asks with no FLIGHT, no WAY (also in one WORLD alone) and no WORLD. */
    private void likewise(java.util.function.ToIntBiFunction<FlightDesk, Integer> ask) {
        said.due("a new object", ask.applyAsInt(new FlightDesk(), 0), -1);
        FlightDesk desk = Check.desk(BOOK);
        said.due("no FLIGHT", ask.applyAsInt(desk, 0), -1);
        desk.flight(0, 3, 0, 0, 0);
        said.due("no WAY", ask.applyAsInt(desk, 0), -1);
        desk = planned();
        for (int world : NO_WORLDS) {
            said.due("WORLD " + world, ask.applyAsInt(desk, world), -1);
        }
        for (int world = 0; world < 3; world++) {
            said.due("WORLD " + world + " has one", ask.applyAsInt(desk, world) >= 0, true);
            FlightDesk slow = Check.desk("leg 0 1 400 at 0 0; wind " + world + " 0 0 -351;");
            slow.flight(0, 1, 0, 0, 0);
            for (int other = 0; other < 3; other++) {
                said.due("WORLD " + other + ", none in " + world, ask.applyAsInt(slow, other) == -1, other == world);
            }
        }
    }

    private void need() {
        FlightDesk desk = planned();
        for (int world = 0; world < 3; world++) {
            said.due("need(" + world + ")", desk.need(world), 175);
        }
        desk.flight(0, 1, 0, 0, 0);
        said.due("need of the least", desk.need(0), 65);
        FlightDesk least = Check.desk("leg 0 1 1 at 0 0; burn 0 0 1;");
        least.flight(0, 1, 0, 0, 0);
        said.due("the least that there is", least.need(0), 1);
    }

    private void needNone() {
        likewise((desk, world) -> desk.need(world));
        FlightDesk desk = planned();
        desk.flight(0, 9, 0, 0, 0);
        hasNoPlan("without a WAY", desk, 0);
        hasNoPlan("without a WORLD", planned(), 3);
        hasNoPlan("in WORLD -1", planned(), -1);
        hasNoPlan("without a FLIGHT", Check.desk(BOOK), 0);
    }

    private void legs() {
        FlightDesk desk = planned();
        said.due("two", desk.legs(0), 2);
        desk.flight(0, 1, 0, 0, 0);
        said.due("one", desk.legs(0), 1);
    }

    private void legsNone() {
        likewise((desk, world) -> desk.legs(world));
    }

    private void leg() {
        FlightDesk desk = Check.desk("leg 3 4 5; leg 0 1 400 at 1 1; leg 1 2 800 at 2 2; burn 1 0 60; burn 1 1 120; burn 2 0 30;"
            + "climb 1 5;");
        desk.flight(0, 2, 0, 0, 939);
        int[][] want = {{1, 1, 60, 60}, {2, 2, 120, 60}};
        for (int k = 0; k < 2; k++) {
            for (int what = 0; what < 4; what++) {
                said.due("leg(0, " + k + ", " + what + ")", desk.leg(0, k, what), want[k][what]);
            }
        }
        desk.flight(0, 2, 0, 0, 940);
        said.due("its fuel by NEED, above a BAND", desk.leg(0, 0, 3), 120);
    }

    private void legNone() {
        for (int what = 0; what < 4; what++) {
            int it = what;
            likewise((desk, world) -> desk.leg(world, 0, it));
        }
    }

    private void legNoneSuch() {
        FlightDesk desk = planned();
        int[] ks = {LOW, -1, 2, 3, 15, 16, HIGH};
        for (int k : ks) {
            for (int what = 0; what < 4; what++) {
                said.due("leg(0, " + k + ", " + what + ")", desk.leg(0, k, what), -1);
            }
        }
        int[] whats = {LOW, -1, 4, 5, HIGH};
        for (int what : whats) {
            said.due("leg(0, 0, " + what + ")", desk.leg(0, 0, what), -1);
            said.due("leg(0, 1, " + what + ")", desk.leg(0, 1, what), -1);
        }
        desk.flight(0, 1, 0, 0, 0);
        said.due("leg(0, 1, 0) of one", desk.leg(0, 1, 0), -1);
    }

    private void time() {
        FlightDesk desk = Check.desk("leg 0 1 401 at 0 0; leg 1 2 401 at 0 0; wind 1 0 1 -200;");
        desk.flight(0, 2, 0, 0, 0);
        said.due("each rounded up", desk.time(0), 122);
        said.due("in WORLD 1", desk.time(1), 61 + 121);
        desk.flight(0, 1, 0, 0, 0);
        said.due("of one", desk.time(0), 61);
    }

    private void timeNone() {
        likewise((desk, world) -> desk.time(world));
    }

    private int law(String limits) {
        FlightDesk desk = Check.desk(BOOK + limits);
        desk.flight(0, 2, 7, 30, 50);
        return desk.legal(0);
    }

    private void legal() {
        said.due("all kept", law("tank 175; most 205; land 80;"), 0);
        said.due("TANK", law("tank 174; most 205; land 80;"), 1);
        said.due("MOST", law("tank 175; most 204; land 80;"), 2);
        said.due("LAND", law("tank 175; most 205; land 79;"), 3);
        said.due("TANK and MOST", law("tank 174; most 204; land 80;"), 1);
        said.due("TANK and LAND", law("tank 174; most 205; land 79;"), 1);
        said.due("MOST and LAND", law("tank 175; most 204; land 79;"), 2);
        said.due("all broken", law("tank 174; most 204; land 79;"), 1);
    }

    private void legalNone() {
        likewise((desk, world) -> desk.legal(world));
    }

    private void borne() {
        FlightDesk desk = Check.desk("leg 0 1 400 at 0 0; burn 0 0 60; wind 1 0 0 -100; wind 2 0 0 -200;");
        desk.flight(0, 1, 0, 0, 0);
        int[][] rows = {{1, 60}, {2, 80}, {3, 120}, {0, -1}, {4, -1}, {-1, -1}, {LOW, -1}, {HIGH, -1}};
        for (int[] row : rows) {
            said.due("borne(" + row[0] + ")", desk.borne(row[0]), row[1]);
        }
    }

    private void borneNone() {
        FlightDesk desk = Check.desk(BOOK);
        for (int n = 1; n <= 3; n++) {
            said.due("no FLIGHT", desk.borne(n), -1);
        }
        desk.flight(0, 9, 0, 0, 0);
        for (int n = 1; n <= 3; n++) {
            said.due("no WAY", desk.borne(n), -1);
        }
        for (int world = 0; world < 3; world++) {
            desk = Check.desk("leg 0 1 400 at 0 0; wind " + world + " 0 0 -351;");
            desk.flight(0, 1, 0, 0, 0);
            for (int n = 1; n <= 3; n++) {
                said.due("borne(" + n + "), none in " + world, desk.borne(n), n > world ? -1 : 1000);
            }
        }
    }

    // ---- fuel along BEST

    private void at() {
        FlightDesk desk = planned();
        int[] want = {175, 110, 50};
        for (int k = 0; k < 3; k++) {
            said.due("at(0, 175, " + k + ")", desk.at(0, 175, k), want[k]);
            said.due("at(2, 60000, " + k + ")", desk.at(2, 60000, k), want[k] + 60000 - 175);
        }
    }

    private void atNone() {
        likewise((desk, world) -> desk.at(world, 60000, 0));
        likewise((desk, world) -> desk.at(world, 60000, 1));
        FlightDesk desk = planned();
        int[] ks = {LOW, -1, 3, 4, 16, 17, HIGH};
        for (int k : ks) {
            said.due("at(0, 175, " + k + ")", desk.at(0, 175, k), -1);
        }
        int[] fuels = {LOW, -1, 0, 174, 60001, HIGH};
        for (int fuel : fuels) {
            for (int k = 0; k < 3; k++) {
                said.due("at(0, " + fuel + ", " + k + ")", desk.at(0, fuel, k), -1);
            }
        }
    }

    private void home() {
        FlightDesk desk = planned();
        said.due("home(0, 1)", desk.home(0, 1), 110);
        said.due("home(0, 2)", desk.home(0, 2), 170);
        said.due("home(2, 2)", desk.home(2, 2), 170);
    }

    private void homeNoReturn() {
        FlightDesk desk = Check.desk("leg 0 1 400 at 0 0; leg 1 2 400 at 0 0; leg 1 0 400 at 0 0; burn 0 0 60;");
        desk.flight(0, 2, 0, 0, 0);
        said.due("of POINT 1", desk.home(0, 1), 60);
        said.due("of POINT 2", desk.home(0, 2), -1);
    }

    private void homeNone() {
        likewise((desk, world) -> desk.home(world, 0));
        FlightDesk desk = planned();
        int[] ks = {LOW, -1, 3, 4, 16, 17, HIGH};
        for (int k : ks) {
            said.due("home(0, " + k + ")", desk.home(0, k), -1);
        }
    }

    private void homeOfTheFirst() {
        said.due("with RESERVE 50", planned().home(0, 0), 0);
        FlightDesk desk = Check.desk("leg 0 1 400;");
        desk.flight(0, 1, 0, 0, 10000);
        said.due("without a RETURN of others", desk.home(0, 0), 0);
        desk.flight(1, 0, 0, 0, 0);
        said.due("without a WAY", desk.home(0, 0), -1);
    }

    private void lastReturn() {
        FlightDesk desk = planned();
        int[][] rows = {{175, 1}, {294, 1}, {295, 2}, {60000, 2}};
        for (int[] row : rows) {
            said.due("lastReturn(0, " + row[0] + ")", desk.lastReturn(0, row[0]), row[1]);
        }
    }

    private void lastReturnNone() {
        likewise((desk, world) -> desk.lastReturn(world, 60000));
        FlightDesk desk = planned();
        int[] fuels = {LOW, -1, 0, 174, 60001, HIGH};
        for (int fuel : fuels) {
            said.due("lastReturn(0, " + fuel + ")", desk.lastReturn(0, fuel), -1);
        }
    }

    private void lastReturnJustFirst() {
        FlightDesk desk = Check.desk("leg 0 1 400 at 0 0; leg 1 0 800 at 0 0; burn 0 0 60;");
        desk.flight(0, 1, 0, 0, 0);
        said.due("too little at POINT 1", desk.lastReturn(0, 179), 0);
        said.due("enough", desk.lastReturn(0, 180), 1);
        desk = Check.desk("leg 0 1 400;");
        desk.flight(0, 1, 0, 0, 0);
        said.due("no RETURN", desk.lastReturn(0, 60000), 0);
    }

    private void carryPrices() {
        FlightDesk desk = planned();
        int[][] rows = {{0, 0, 0}, {0, 1, 500}, {1, 0, 0}, {1000, 1000, 0}, {999, 1000, 500}, {1000, 999, 0}, {0, 1000, 500},
            {1000, 0, 0}, {-1, 0, -1}, {0, -1, -1}, {1001, 0, -1}, {0, 1001, -1}, {1001, 1001, -1}, {LOW, 0, -1}, {0, LOW, -1},
            {HIGH, 0, -1}, {0, HIGH, -1}};
        for (int[] row : rows) {
            said.due("carry(0, " + row[0] + ", " + row[1] + ")", desk.carry(0, row[0], row[1]), row[2]);
        }
    }

    private void carryNone() {
        likewise((desk, world) -> desk.carry(world, 1, 2));
        likewise((desk, world) -> desk.carry(world, 2, 1));
    }

    private int carried(String limits) {
        FlightDesk desk = Check.desk(BOOK + limits);
        desk.flight(0, 2, 7, 30, 50);
        return desk.carry(0, 1, 2);
    }

    private void carryNotLegal() {
        said.due("TANK just kept", carried("tank 175;"), 0);
        said.due("TANK broken", carried("tank 174;"), -1);
        said.due("MOST just kept", carried("most 205;"), 0);
        said.due("MOST broken", carried("most 204;"), -1);
        said.due("LAND just kept", carried("land 80;"), 0);
        said.due("LAND broken", carried("land 79;"), -1);
        said.due("by one more", carried("tank 176; most 300; land 300;"), 1);
        // A FLIGHT before that was LEGAL counts for nothing.
        FlightDesk desk = Check.desk(BOOK + "tank 200;");
        desk.flight(0, 2, 7, 30, 50);
        said.due("LEGAL", desk.carry(0, 1, 2), 25);
        desk.flight(0, 2, 7, 30, 76);
        said.due("not LEGAL then", desk.carry(0, 1, 2), -1);
        desk.flight(0, 2, 7, 30, 75);
        said.due("LEGAL again", desk.carry(0, 1, 2), 0);
    }

    // ---- about

    private void aboutBook() {
        FlightDesk desk = planned();
        said.due("LEGS", desk.about(0), 4);
        said.due("lines", desk.about(1), 6);
        desk = Check.desk("leg 0 1 5;".repeat(16));
        said.due("16 LEGS", desk.about(0), 16);
        said.due("16 lines", desk.about(1), 16);
        desk.book();
        said.due("no LEGS", desk.about(0), 0);
        said.due("no lines", desk.about(1), 0);
    }

    private void aboutFlight() {
        FlightDesk desk = Check.desk(BOOK);
        said.due("none", desk.about(2), 0);
        desk.flight(0, 0, 0, 0, 0);
        said.due("a refused one", desk.about(2), 0);
        desk.flight(0, 2, 0, 0, 0);
        said.due("one", desk.about(2), 1);
        desk.flight(0, 0, 0, 0, 0);
        said.due("one, and a refused one", desk.about(2), 1);
        desk.flight(0, 9, 0, 0, 0);
        said.due("one without a WAY", desk.about(2), 1);
        desk.book();
        said.due("a new BOOK", desk.about(2), 0);
    }

    private void aboutTape() {
        FlightDesk desk = new FlightDesk();
        said.due("none", desk.about(3), 0);
        feedBlanks(desk);
        said.due("20", desk.about(3), 20);
        desk.end(7);
        said.due("7", desk.about(3), 7);
        Check.feed(desk, " ".repeat(973));
        feedBlanks(desk);
        said.due("1000", desk.about(3), 1000);
        desk.book();
        said.due("none behind book()", desk.about(3), 0);
    }

    private void aboutNone() {
        int[] others = {LOW, -2, -1, 4, 5, HIGH};
        for (int what : others) {
            said.due("about(" + what + ")", planned().about(what), -1);
            said.due("about(" + what + ") of a new object", new FlightDesk().about(what), -1);
        }
    }
}
