/** "Terms" up to ==== 2: the text of a BOOK, its FAULTS, and what is led on. */
final class BookSentences {
    private final Sentences said;

    BookSentences(Sentences said) {
        this.said = said;
    }

    void walk() {
        said.section("Terms");
        said.holds("The BOOK is a text of at most 1,000 bytes:", this::thousandBytes);
        said.holds("book = {line}.", this::anyLines);
        said.holds("line = leg P P N [at L L] [from D D] ;", this::legLine);
        said.holds("| speed L N ;", this::speedLine);
        said.holds("| wind W L K V ;", this::windLine);
        said.holds("| burn L B N ;", this::burnLine);
        said.holds("| climb L N ;", this::climbLine);
        said.holds("| tank N ; | most N ; | land N ; | dry N ;.", this::limitLines);
        walkTokens();
        walkNumbers();
        walkFaults();
        walkLedOn();
    }

    private void walkTokens() {
        said.holds("TOKENS: words (a .. z, 8 at most),", this::words);
        said.holds("numbers (1 to 5 digits,", this::digits);
        said.holds("- directly ahead or not),", this::minus);
        said.holds("sign ;;", this::sign);
        said.holds("blanks (32, 10) part them or not;", this::blanks);
        said.holds("each is as long as can be;", this::asLongAsCanBe);
        said.holds("no letter directly behind a number.", this::letterBehindNumber);
    }

    private void walkNumbers() {
        said.holds("P 0 .. 9 (POINTS;", this::points);
        said.holds("a leg's two differ),", this::pointsDiffer);
        said.holds("leg's N 1 .. 999 (miles),", this::miles);
        said.holds("L 0 .. 5 (LEVELS;", this::levels);
        said.holds("the second not below the first),", this::secondLevel);
        said.holds("D 0 .. 999 (days, likewise),", this::days);
        said.holds("speed's N 100 .. 999,", this::speeds);
        said.holds("W 0 .. 2 (WORLDS),", this::worlds);
        said.holds("K a LEG that is told already,", this::windsLeg);
        said.holds("V -400 .. 400,", this::winds);
        said.holds("B 0 .. 4 (BANDS),", this::bands);
        said.holds("burn's N 1 .. 9999,", this::burns);
        said.holds("climb's 0 .. 999,", this::climbs);
        said.holds("tank's, most's, land's, dry's 0 .. 60000.", this::limits);
        said.holds("At most 60 lines,", this::sixtyLines);
        said.holds("16 LEGS", this::sixteenLegs);
        said.holds("(numbered as they are told;", this::numbered);
        said.holds("one way each;", this::oneWay);
        said.holds("on all LEVELS and days, if not told otherwise).", this::allLevelsAndDays);
    }

    private void walkFaults() {
        said.holds("FAULTS, the first by its place", this::firstByPlace);
        said.holds("(bytes from 0; the end: the text's length),", this::places);
        said.holds("at one place the least:", this::leastAtOnePlace);
        said.holds("1 no TOKEN;", this::noToken);
        said.holds("2 one that can't stand there", this::cannotStand);
        said.holds("(a 61st line, a 17th LEG: at its word);", this::oneTooMany);
        said.holds("3 a number that can't be;", this::numberThatCannotBe);
        said.holds("4 what is told already (speed of L;", this::speedToldAlready);
        said.holds("wind of W, L, K;", this::windToldAlready);
        said.holds("burn of L, B;", this::burnToldAlready);
        said.holds("climb of L:", this::climbToldAlready);
        said.holds("at the last number that tells which;", this::toldAlreadyAtLastNumber);
        said.holds("tank, most, land, dry: at the word);", this::limitToldAlready);
        said.holds("5 a burn below that of the greatest BAND below its own of the LEVEL", this::burnTooLow);
        said.holds("that is told so far,", this::burnToldSoFar);
        said.holds("or above that of the least BAND above it:", this::burnTooHigh);
        said.holds("at its last number.", this::burnAtLastNumber);
    }

    private void walkLedOn() {
        said.holds("SPEED of a LEVEL: as told, else 400.", this::speedLedOn);
        said.holds("WIND of a WORLD, LEVEL and LEG: as told;", this::windAsTold);
        said.holds("else that of the next LEVEL below that is told there;", this::windFromBelow);
        said.holds("that is told there; else 0.", this::windElseNothing);
        said.holds("BURN of a LEVEL and BAND: as told;", this::burnAsTold);
        said.holds("else of the greatest BAND below that is told for the LEVEL;", this::burnFromBelow);
        said.holds("else of the least above;", this::burnFromAbove);
        said.holds("else 1000.", this::burnElse);
        said.holds("CLIMB to a LEVEL from the one below (to 0 from the ground): as told, else 0.", this::climbLedOn);
        said.holds("TANK 30000, MOST 60000, LAND 60000, DRY 0, if not told.", this::limitsLedOn);
    }

    // ---- the lines

    private void thousandBytes() {
        FlightDesk desk = said.taken(0, " ".repeat(993) + "dry 12;");
        said.due("told(7)", desk.told(7, 0, 0, 0), 12);
        said.refused(2, " ".repeat(995) + "dry 5|");
        said.refused(1, " ".repeat(999) + "|?");
        FlightDesk full = new FlightDesk();
        Check.feed(full, " ".repeat(1000));
        said.due("a byte more", full.feed(0x3b3b3b3b, 0, 0, 0, 0), -1);
        said.due("about(3)", full.about(3), 1000);
        said.due("book()", full.book(), 0);
    }

    private void anyLines() {
        said.due("lines of nothing", said.taken(0, "").about(1), 0);
        said.due("lines of blanks", said.taken(0, " \n ").about(1), 0);
        said.due("lines of one", said.taken(0, "dry 5;").about(1), 1);
        said.due("lines of two", said.taken(0, "dry 5;tank 5;").about(1), 2);
        said.refused(2, "|;");
        said.refused(2, "dry 5;|;");
        said.refused(2, "|5;");
    }

    /** Ahead of each token from the given one on: the sign, the end of the text and a word can't stand. */
    private void wantsAll(String head, String line) {
        String[] tokens = line.split(" ");
        StringBuilder text = new StringBuilder(head + tokens[0]);
        for (int i = 1; i < tokens.length; i++) {
            said.refused(2, text + "|");
            said.refused(2, text + " \n|");
            said.refused(2, text + " |x " + tokens[i] + ";");
            if (!tokens[i].equals(";")) {
                said.refused(2, text + " |;");
                said.refused(2, text + "|;");
            }
            text.append(' ').append(tokens[i]);
        }
        said.refused(2, text.substring(0, text.length() - 1) + "|0;");
    }

    /** No other word stands there: with a letter too few or too many, or another one at each place. */
    private void wantsWord(String head, String word, String tail) {
        said.refused(2, head + "|" + word + "x" + tail);
        said.refused(2, head + "|x" + word + tail);
        said.refused(2, head + "|" + word.substring(1) + tail);
        said.refused(2, head + "|" + word.substring(0, word.length() - 1) + tail);
        for (int i = 0; i < word.length(); i++) {
            said.refused(2, head + "|" + word.substring(0, i) + "x" + word.substring(i + 1) + tail);
        }
    }

    private void legLine() {
        said.taken(1, "leg 0 1 5;");
        said.taken(1, "leg 0 1 5 at 2 3;");
        said.taken(1, "leg 0 1 5 from 2 3;");
        said.taken(1, "leg 0 1 5 at 2 3 from 2 3;");
        String[] without = {"leg |;", "leg 0 |;", "leg 0 1 |;", "leg 0 1 5 at |;", "leg 0 1 5 at 2 |;",
            "leg 0 1 5 from |;", "leg 0 1 5 from 2 |;", "leg 0 1 5 at 2 3 from |;", "leg 0 1 5 at 2 3 from 2 |;"};
        for (String text : without) {
            said.refused(2, text);
            said.refused(2, text.replace(";", ""));
            said.refused(2, text.replace(";", "at 2 3;"));
            said.refused(2, text.replace(";", "from 2 3;"));
        }
        String[] whole = {"leg 0 1 5", "leg 0 1 5 at 2 3", "leg 0 1 5 from 2 3", "leg 0 1 5 at 2 3 from 2 3"};
        for (String text : whole) {
            said.refused(2, text + "|");
            said.refused(2, text + " |5;");
            said.refused(2, text + " |x;");
            said.refused(2, text + " |leg 0 1 5;");
        }
        said.refused(2, "leg 0 1 5 at 2 3 |at 2 3;");
        said.refused(2, "leg 0 1 5 from 2 3 |from 2 3;");
        said.refused(2, "leg 0 1 5 from 2 3 |at 2 3;");
        said.refused(2, "leg 0 1 5 at 2 3 from 2 3 |from 2 3;");
        wantsWord("", "leg", " 0 1 5;");
        wantsWord("leg 0 1 5 ", "at", " 2 3;");
        wantsWord("leg 0 1 5 ", "from", " 2 3;");
        wantsWord("leg 0 1 5 at 2 3 ", "from", " 2 3;");
        said.refused(2, "|at 2 3;");
        said.refused(2, "|from 2 3;");
    }

    private void speedLine() {
        FlightDesk desk = said.taken(0, "speed 2 300;");
        said.due("told(0, 2)", desk.told(0, 2, 0, 0), 300);
        wantsAll("", "speed 2 300 ;");
        wantsWord("", "speed", " 2 300;");
    }

    private void windLine() {
        FlightDesk desk = said.taken(1, "leg 0 1 5; wind 1 2 0 -30;");
        said.due("told(1, 1, 2, 0)", desk.told(1, 1, 2, 0), -30);
        wantsAll("leg 0 1 5;", "wind 1 2 0 -30 ;");
        wantsWord("leg 0 1 5;", "wind", " 1 2 0 -30;");
    }

    private void burnLine() {
        FlightDesk desk = said.taken(0, "burn 2 3 300;");
        said.due("told(2, 2, 3)", desk.told(2, 2, 3, 0), 300);
        wantsAll("", "burn 2 3 300 ;");
        wantsWord("", "burn", " 2 3 300;");
    }

    private void climbLine() {
        FlightDesk desk = said.taken(0, "climb 2 300;");
        said.due("told(3, 2)", desk.told(3, 2, 0, 0), 300);
        wantsAll("", "climb 2 300 ;");
        wantsWord("", "climb", " 2 300;");
    }

    private void limitLines() {
        String[] words = {"tank", "most", "land", "dry"};
        for (int i = 0; i < 4; i++) {
            FlightDesk desk = said.taken(0, words[i] + " 1234;");
            for (int j = 0; j < 4; j++) {
                int untold = j == 0 ? 30000 : j == 3 ? 0 : 60000;
                said.due("told(" + (4 + j) + ") of " + words[i], desk.told(4 + j, 0, 0, 0), i == j ? 1234 : untold);
            }
            wantsAll("", words[i] + " 1234 ;");
            wantsWord("", words[i], " 1234;");
        }
    }

    // ---- the tokens

    private void words() {
        said.refused(2, "|z 5;");
        said.refused(2, "|abcdefgh 5;");
        said.refused(2, "dry |zzzzzzzz;");
        said.refused(1, "|abcdefghi 5;");
        said.refused(1, "dry |zzzzzzzzz;");
        said.refused(1, "|`");
        said.refused(1, "|{");
        said.refused(1, "|A 5;");
        said.refused(1, "|Z 5;");
        said.refused(1, "|_");
        said.refused(1, "dry |'5';");
    }

    private void digits() {
        said.due("one digit", said.taken(0, "dry 9;").told(7, 0, 0, 0), 9);
        said.due("five digits", said.taken(0, "dry 59999;").told(7, 0, 0, 0), 59999);
        said.due("five digits, 0 ahead", said.taken(0, "dry 00009;").told(7, 0, 0, 0), 9);
        said.refused(1, "dry |000009;");
        said.refused(1, "dry |123456;");
        said.refused(1, "dry |4294967296;");
        said.refused(1, "dry |99999999999999999999;");
        said.refused(1, "dry |-000009;");
        said.refused(3, "dry |99999;");
        said.refused(1, "dry |/;");
        said.refused(1, "dry |:;");
        said.refused(1, "dry 5|,0;");
        said.refused(1, "dry 5|.0;");
    }

    private void minus() {
        said.due("-0", said.taken(0, "dry -0;").told(7, 0, 0, 0), 0);
        said.due("-00000", said.taken(0, "dry -00000;").told(7, 0, 0, 0), 0);
        said.due("-00300", said.taken(1, "leg 0 1 5; wind 0 0 0 -00300;").told(1, 0, 0, 0), -300);
        said.refused(3, "dry |-1;");
        said.refused(3, "dry |-99999;");
        said.refused(1, "dry |-;");
        said.refused(1, "dry |-");
        said.refused(1, "dry |- 5;");
        said.refused(1, "dry |-\n5;");
        said.refused(1, "dry |--5;");
        said.refused(1, "dry |-x;");
        said.refused(1, "dry |+5;");
        said.refused(1, "dry 5|-;");
    }

    private void sign() {
        said.taken(0, "dry 5;");
        said.refused(1, "dry 5|:");
        said.refused(1, "dry 5|<");
        said.refused(1, "dry 5|,");
        said.refused(2, "dry 5;|;");
    }

    private void blanks() {
        FlightDesk desk = said.taken(0, " \n dry\n \n5\n;\n\n ");
        said.due("told(7)", desk.told(7, 0, 0, 0), 5);
        said.due("without blanks", said.taken(0, "dry5;tank6;").told(4, 0, 0, 0), 6);
        int[] none = {0, 1, 9, 11, 12, 13, 31, 33, 127, 128, 138, 160, 255};
        for (int sign : none) {
            said.refused(1, "|" + (char) sign + "dry 5;");
            said.refused(1, "dry 5;|" + (char) sign);
            said.refused(1, "dry|" + (char) sign + "5;");
        }
        said.refused(2, "|d ry 5;");
        said.refused(2, "dry 1 |2;");
    }

    private void asLongAsCanBe() {
        said.refused(2, "|dryland 5;");
        said.refused(2, "|dryx 5;");
        said.due("one number", said.taken(0, "dry 12345;").told(7, 0, 0, 0), 12345);
        FlightDesk desk = said.taken(1, "leg0 1 5;wind0 0 0-5;");
        said.due("0 and -5", desk.told(1, 0, 0, 0), -5);
        said.refused(3, "leg |01234 5;");
    }

    private void letterBehindNumber() {
        said.refused(1, "dry |5a;");
        said.refused(1, "dry |5z;");
        said.refused(1, "dry |-5x;");
        said.refused(1, "dry |99999x;");
        said.refused(1, "leg 0 1 |5at 2 3;");
        said.refused(1, "leg 0 1 5 at 2 |3from 2 3;");
        said.taken(1, "leg 0 1 5 at 2 3 from2 3;");
        said.refused(1, "dry 5|A;");
    }

    // ---- the numbers

    private void points() {
        said.bounds(1, "leg ", 0, 9, " 5 7;");
        said.bounds(1, "leg 5 ", 0, 9, " 7;");
    }

    private void pointsDiffer() {
        for (int point = 0; point < 10; point++) {
            said.refused(3, "leg " + point + " |" + point + " 5;");
        }
        said.refused(3, "leg 5 |-5 5;");
        said.refused(3, "leg 0 |-0 5;");
        said.taken(2, "leg 4 5 5; leg 5 4 5;");
    }

    private void miles() {
        said.bounds(1, "leg 0 1 ", 1, 999, ";");
    }

    private void levels() {
        said.bounds(1, "leg 0 1 5 at ", 0, 5, " 5;");
        said.bounds(1, "leg 0 1 5 at 0 ", 0, 5, ";");
        said.bounds(0, "speed ", 0, 5, " 400;");
        said.bounds(1, "leg 0 1 5; wind 0 ", 0, 5, " 0 5;");
        said.bounds(0, "burn ", 0, 5, " 0 5;");
        said.bounds(0, "climb ", 0, 5, " 5;");
    }

    private void secondLevel() {
        for (int level = 0; level <= 5; level++) {
            said.bounds(1, "leg 0 1 5 at " + level + " ", level, 5, ";");
        }
    }

    private void days() {
        said.bounds(1, "leg 0 1 5 from ", 0, 999, " 999;");
        said.bounds(1, "leg 0 1 5 from 0 ", 0, 999, ";");
        said.bounds(1, "leg 0 1 5 from 500 ", 500, 999, ";");
        said.bounds(1, "leg 0 1 5 from 999 ", 999, 999, ";");
        said.bounds(1, "leg 0 1 5 at 5 5 from 7 ", 7, 999, ";");
    }

    private void speeds() {
        said.bounds(0, "speed 0 ", 100, 999, ";");
        said.due("100", said.taken(0, "speed 0 100;").told(0, 0, 0, 0), 100);
        said.due("999", said.taken(0, "speed 5 999;").told(0, 5, 0, 0), 999);
    }

    private void worlds() {
        said.bounds(1, "leg 0 1 5; wind ", 0, 2, " 0 0 5;");
        said.due("2", said.taken(1, "leg 0 1 5; wind 2 0 0 7;").told(1, 2, 0, 0), 7);
    }

    private void windsLeg() {
        said.refused(3, "wind 0 0 |0 5;");
        said.refused(3, "wind 0 0 |0 5; leg 0 1 5;");
        said.bounds(1, "leg 0 1 5; wind 0 0 ", 0, 0, " 5;");
        said.bounds(2, "leg 0 1 5; leg 0 1 5; wind 0 0 ", 0, 1, " 5;");
        said.refused(3, "leg 0 1 5; wind 0 0 |1 5; leg 0 1 5;");
        said.bounds(16, "leg 0 1 5;".repeat(16) + "wind 0 0 ", 0, 15, " 5;");
        FlightDesk desk = said.taken(1, "leg 0 1 5;");
        Check.feed(desk, "wind 0 0 0 5;");
        said.due("a LEG of the BOOK before", desk.book(), -1);
        said.due("its FAULT", desk.fault(0), 3);
        said.due("its place", desk.fault(1), 9);
    }

    private void winds() {
        said.bounds(1, "leg 0 1 5; wind 0 0 0 ", -400, 400, ";");
        said.due("-400", said.taken(1, "leg 0 1 5; wind 0 0 0 -400;").told(1, 0, 0, 0), -400);
        said.due("400", said.taken(1, "leg 0 1 5; wind 0 0 0 400;").told(1, 0, 0, 0), 400);
    }

    private void bands() {
        said.bounds(0, "burn 0 ", 0, 4, " 5;");
    }

    private void burns() {
        said.bounds(0, "burn 0 0 ", 1, 9999, ";");
        said.due("1", said.taken(0, "burn 0 0 1;").told(2, 0, 0, 0), 1);
        said.due("9999", said.taken(0, "burn 5 4 9999;").told(2, 5, 4, 0), 9999);
    }

    private void climbs() {
        said.bounds(0, "climb 0 ", 0, 999, ";");
        said.due("999", said.taken(0, "climb 5 999;").told(3, 5, 0, 0), 999);
    }

    private void limits() {
        String[] words = {"tank", "most", "land", "dry"};
        for (int i = 0; i < 4; i++) {
            said.bounds(0, words[i] + " ", 0, 60000, ";");
            said.due(words[i] + " 0", said.taken(0, words[i] + " 0;").told(4 + i, 0, 0, 0), 0);
            said.due(words[i] + " 60000", said.taken(0, words[i] + " 60000;").told(4 + i, 0, 0, 0), 60000);
        }
    }

    /** So many lines of one LEG and of winds and burns, 55 at most. */
    private static String lines(int count) {
        StringBuilder text = new StringBuilder("leg 0 1 5;");
        for (int i = 0; i < count - 1; i++) {
            if (i < 18) {
                text.append("wind").append(i / 6).append(' ').append(i % 6).append(" 0 1;");
            } else {
                text.append("burn").append((i - 18) / 5 % 6).append(' ').append((i - 18) % 5).append(" 10;");
            }
        }
        return text.toString();
    }

    private static String sixty() {
        return lines(49) + "speed0 400;speed1 400;speed2 400;speed3 400;speed4 400;speed5 400;"
            + "tank 1;most 1;land 1;dry 1;climb 0 5;";
    }

    private void sixtyLines() {
        said.due("about(1)", said.taken(1, sixty()).about(1), 60);
        said.due("about(1)", said.taken(1, sixty() + " \n").about(1), 60);
        said.refused(2, sixty() + "|climb 1 5;");
        said.due("59", said.taken(1, sixty().replace("climb 0 5;", "")).about(1), 59);
    }

    private void sixteenLegs() {
        said.due("about(0)", said.taken(16, "leg 0 1 5;".repeat(16)).about(0), 16);
        said.due("with more lines", said.taken(16, "leg 0 1 5;".repeat(16) + "dry 5;").about(1), 17);
        said.refused(2, "leg 0 1 5;".repeat(16) + "|leg 0 1 5;");
    }

    private void numbered() {
        FlightDesk desk = said.taken(3, "leg 0 1 20; dry 0; leg 3 4 40; leg 0 1 60;");
        desk.flight(0, 1, 0, 0, 0);
        said.due("minutes(0)", desk.minutes(0, 0, 0), 3);
        said.due("minutes(1)", desk.minutes(1, 0, 0), 6);
        said.due("minutes(2)", desk.minutes(2, 0, 0), 9);
        said.due("minutes(3)", desk.minutes(3, 0, 0), -1);
    }

    private void oneWay() {
        FlightDesk desk = said.taken(1, "leg 0 1 400;");
        desk.flight(0, 1, 0, 0, 0);
        said.due("there", desk.need(0), 1000);
        desk.flight(1, 0, 0, 0, 0);
        said.due("back", desk.need(0), -1);
    }

    private void allLevelsAndDays() {
        String[] legs = {"leg 0 1 400;", "leg 0 1 400 at 2 3;", "leg 0 1 400 from 5 6;", "leg 0 1 400 at 2 3 from 5 6;"};
        int[] days = {0, 4, 5, 6, 7, 999};
        for (int i = 0; i < 4; i++) {
            FlightDesk desk = said.taken(1, legs[i]);
            for (int day : days) {
                desk.flight(0, 1, day, 0, 0);
                for (int level = 0; level < 6; level++) {
                    boolean open = (i % 2 == 0 || level == 2 || level == 3) && (i < 2 || day == 5 || day == 6);
                    String call = "minutes(0, " + level + ", 0) on " + day + " of " + legs[i];
                    said.due(call, desk.minutes(0, level, 0), open ? 60 : -1);
                }
            }
        }
        notAsToldBefore();
    }

    /** What the LEGS of a text before were told is not told of those of the next. */
    private void notAsToldBefore() {
        String[] before = {"leg 0 1 5 at 2 3 from 5 6;", "leg 0 1 5 at 2 3 from 5 6; ?"};
        for (String text : before) {
            FlightDesk desk = new FlightDesk();
            Check.feed(desk, text);
            desk.book();
            desk.end(0);
            Check.feed(desk, "leg 0 1 400;");
            said.due("book behind " + text, desk.book(), 1);
            int[] days = {0, 4, 7, 999};
            for (int day : days) {
                desk.flight(0, 1, day, 0, 0);
                for (int level = 0; level < 6; level++) {
                    said.due("LEVEL " + level + " on " + day + " behind " + text, desk.minutes(0, level, 0), 60);
                }
            }
        }
    }

    // ---- the faults

    private void firstByPlace() {
        said.refused(2, "dry |; ?");
        said.refused(3, "speed |6 ?;");
        said.refused(3, "dry |60001 x ?");
        said.refused(4, "dry 5; |dry ?;");
        said.refused(4, "dry 5; |dry 60001;");
        said.refused(4, "speed 1 400; speed |1 99;");
        said.refused(5, "burn 0 1 10; burn 0 2 |9 ?");
        said.refused(5, "burn 0 1 10; burn 0 2 |9; dry 60001;");
        said.refused(1, "dry 5; |? dry 6;");
        said.refused(1, "|? ; 5 speed 6");
    }

    private void places() {
        said.refused(1, "|?");
        said.refused(1, " |?");
        said.refused(1, " \n\n |?");
        said.refused(3, "dry|60001;");
        said.refused(2, "dry|");
        said.refused(2, "dry \n |");
        said.refused(2, "dry 5|");
        said.refused(2, "dry 5\n\n|");
        said.refused(2, "dry 5; tank|");
        said.refused(2, "leg 0 1 5 at 2 3 from 2 3 |");
        said.refused(2, "leg 0 1 5 at 2 3 from 2 |");
    }

    private void leastAtOnePlace() {
        said.refused(1, "|?");
        said.refused(1, "dry |abcdefghi;");
        said.refused(1, "dry |600001;");
        said.refused(1, sixty() + "|?");
        said.refused(1, sixty() + "|abcdefghi");
        said.refused(2, sixty() + "|tank 1;");
        said.refused(2, sixty() + "|dry 1;");
        said.refused(2, "leg 0 1 5;".repeat(16) + "|leg 0 0 5;");
        said.refused(3, "burn 0 1 10; burn 0 2 |0;");
        said.refused(3, "burn 0 1 10; burn 0 2 |-5;");
        said.refused(3, "burn 0 1 10; burn 0 0 |10000;");
    }

    private void noToken() {
        said.refused(1, "|?");
        said.refused(1, "dry |?;");
        said.refused(1, "dry 5|?");
        said.refused(1, "dry 5;|?");
        said.refused(1, "leg 0 1 5 |?");
        said.refused(1, "leg 0 1 5 at 2 3 |?");
        said.refused(1, "leg 0 1 5 at 2 3 from 2 3 |?");
        said.refused(1, "|abcdefghi");
        said.refused(1, "dry |123456");
        said.refused(1, "dry |5x");
        said.refused(1, "dry |-");
        said.refused(1, "|" + (char) 0);
        said.refused(1, "|" + (char) 255);
    }

    private void cannotStand() {
        said.refused(2, "|;");
        said.refused(2, "|0");
        said.refused(2, "|-5");
        said.refused(2, "|x");
        said.refused(2, "|from 2 3;");
        said.refused(2, "dry |dry 5;");
        said.refused(2, "dry 5 |dry 5;");
        said.refused(2, "dry 5 |-5;");
        said.refused(2, "leg 0 1 5 |x 2 3;");
        said.refused(2, "leg 0 1 5 at |at 2 3;");
        said.refused(2, "leg 0 1 5 at 2 3 |5;");
        said.refused(2, "dry|");
    }

    private void oneTooMany() {
        said.refused(2, sixty() + "|climb 1 5;");
        said.refused(2, sixty() + " \n |climb 1 5;");
        said.refused(2, sixty() + "|leg 0 1 5;");
        said.refused(2, sixty() + "|climb 9 5;");
        said.refused(2, sixty() + "|climb");
        said.refused(2, "leg 0 1 5;".repeat(16) + "|leg 0 1 5;");
        said.refused(2, "leg 0 1 5;".repeat(16) + "dry 5; |leg 0 1 5;");
        said.refused(2, "leg 0 1 5;".repeat(16) + "|leg 10 1 5;");
        said.refused(2, "leg 0 1 5;".repeat(16) + "|leg");
    }

    private void numberThatCannotBe() {
        String[] texts = {"leg |10 0 5;", "leg 0 |10 5;", "leg 0 |0 5;", "leg 0 1 |0;", "leg 0 1 5 at |6 6;",
            "leg 0 1 5 at 3 |2;", "leg 0 1 5 from |1000 1000;", "leg 0 1 5 from 3 |2;", "speed |6 400;", "speed 0 |99;",
            "leg 0 1 5; wind |3 0 0 0;", "leg 0 1 5; wind 0 |6 0 0;", "leg 0 1 5; wind 0 0 |1 0;",
            "leg 0 1 5; wind 0 0 0 |401;", "burn |6 0 5;", "burn 0 |5 5;", "burn 0 0 |0;", "climb |6 5;",
            "climb 0 |1000;", "tank |60001;", "most |60001;", "land |60001;", "dry |60001;"};
        for (String text : texts) {
            said.refused(3, text);
            said.refused(3, text.substring(0, text.length() - 1));
        }
    }

    private void speedToldAlready() {
        said.refused(4, "speed 1 400; speed |1 400;");
        said.refused(4, "speed 1 300; speed 2 300; speed |1 400;");
        said.refused(4, "speed 5 300; speed |00005 400;");
        said.taken(0, "speed 0 300; speed 1 300; speed 2 300; speed 3 300; speed 4 300; speed 5 300;");
        said.taken(0, "speed 1 300; climb 1 5; burn 1 1 5;");
        FlightDesk desk = said.taken(0, "speed 1 300;");
        Check.feed(desk, "speed 1 500;");
        said.due("told in the BOOK before", desk.book(), 0);
        said.due("told(0, 1)", desk.told(0, 1, 0, 0), 500);
        Check.feed(desk, "speed 1 600; speed 6 400;");
        said.due("a FAULT", desk.book(), -1);
        desk.end(12);
        said.due("told in a text with a FAULT", desk.book(), 0);
        said.due("told(0, 1)", desk.told(0, 1, 0, 0), 600);
    }

    private void windToldAlready() {
        String head = "leg 0 1 5; leg 1 0 5; wind 1 2 0 5; ";
        said.refused(4, head + "wind 1 2 |0 5;");
        said.refused(4, head + "wind 1 2 1 5; wind 1 2 |0 6;");
        said.refused(4, "leg 0 1 5; wind 0 0 0 0; wind 0 0 |0 0;");
        said.taken(2, head + "wind 0 2 0 5; wind 2 2 0 5; wind 1 1 0 5; wind 1 3 0 5; wind 1 2 1 5;");
    }

    private void burnToldAlready() {
        said.refused(4, "burn 1 2 5; burn 1 |2 5;");
        said.refused(4, "burn 1 2 5; burn 1 3 5; burn 1 |2 5;");
        said.taken(0, "burn 1 2 5; burn 1 1 5; burn 1 3 5; burn 0 2 5; burn 2 2 5;");
    }

    private void climbToldAlready() {
        said.refused(4, "climb 1 5; climb |1 5;");
        said.refused(4, "climb 0 0; climb |0 0;");
        said.taken(0, "climb 0 5; climb 1 5; climb 2 5; climb 3 5; climb 4 5; climb 5 5;");
    }

    private void toldAlreadyAtLastNumber() {
        said.refused(4, "speed 1 400; speed |1");
        said.refused(4, "speed 1 400; speed |1 x");
        said.refused(4, "leg 0 1 5; wind 1 2 0 5; wind 1 2 |0");
        said.refused(4, "leg 0 1 5; wind 1 2 0 5; wind 1 2 |0 401;");
        said.refused(2, "leg 0 1 5; wind 1 2 0 5; wind 1 2 |;");
        said.refused(4, "burn 1 2 5; burn 1 |2");
        said.refused(4, "burn 1 2 5; burn 1 |2 0;");
        said.refused(4, "burn 1 2 5; burn 1 3 5; burn 1 |2 6;");
        said.refused(2, "burn 1 2 5; burn 1 |;");
        said.refused(4, "climb 1 5; climb |1;");
    }

    private void limitToldAlready() {
        String[] words = {"tank", "most", "land", "dry"};
        for (int i = 0; i < 4; i++) {
            said.refused(4, words[i] + " 5; |" + words[i] + " 5;");
            said.refused(4, words[i] + " 0; |" + words[i]);
            said.refused(4, words[i] + " 5; |" + words[i] + " 60001;");
            said.taken(0, words[i] + " 5; " + words[(i + 1) % 4] + " 5;");
        }
    }

    private void burnTooLow() {
        said.refused(5, "burn 0 1 10; burn 0 2 |9;");
        said.taken(0, "burn 0 1 10; burn 0 2 10;");
        said.refused(5, "burn 0 0 10; burn 0 4 |9;");
        said.refused(5, "burn 0 0 10; burn 0 2 20; burn 0 3 |19;");
        said.refused(5, "burn 0 2 20; burn 0 0 10; burn 0 4 |19;");
        said.taken(0, "burn 0 0 10; burn 0 2 20; burn 0 3 20;");
        said.taken(0, "burn 0 1 10; burn 1 2 9;");
        said.taken(0, "burn 1 1 10; burn 0 2 9;");
        said.refused(5, "burn 5 0 9999; burn 5 4 |9998;");
        said.taken(0, "burn 0 4 1;");
    }

    private void burnToldSoFar() {
        said.refused(5, "burn 0 3 20; burn 0 1 |30;");
        said.refused(5, "burn 0 1 30; burn 0 3 |20;");
        said.taken(0, "burn 0 0 10; burn 0 4 30; burn 0 2 20; burn 0 3 20; burn 0 1 20;");
        said.taken(0, "burn 0 0 2000; burn 0 4 2000; burn 1 4 1; burn 1 0 1;");
        FlightDesk desk = said.taken(0, "burn 0 0 50;");
        Check.feed(desk, "burn 0 4 40;");
        said.due("told in the BOOK before", desk.book(), 0);
        said.due("told(2, 0, 0)", desk.told(2, 0, 0, 0), 40);
    }

    private void burnTooHigh() {
        said.refused(5, "burn 0 3 10; burn 0 2 |11;");
        said.taken(0, "burn 0 3 10; burn 0 2 10;");
        said.refused(5, "burn 0 4 10; burn 0 0 |11;");
        said.refused(5, "burn 0 4 30; burn 0 2 20; burn 0 1 |21;");
        said.refused(5, "burn 0 2 20; burn 0 4 30; burn 0 0 |21;");
        said.taken(0, "burn 0 4 30; burn 0 2 20; burn 0 1 20;");
        said.taken(0, "burn 0 3 10; burn 1 2 11;");
        said.refused(5, "burn 0 0 10; burn 0 4 20; burn 0 2 |21;");
        said.refused(5, "burn 0 0 10; burn 0 4 20; burn 0 2 |9;");
        said.taken(0, "burn 0 0 9999;");
    }

    private void burnAtLastNumber() {
        said.refused(5, "burn 0 1 10; burn 0 2 |9");
        said.refused(5, "burn 0 1 10; burn 0 2\n |9 x;");
        said.refused(5, "burn 0 3 10; burn 0 2 |00011;");
    }

    // ---- what is led on

    private void speedLedOn() {
        FlightDesk desk = said.taken(0, "speed 0 100; speed 3 999;");
        int[] want = {100, 400, 400, 999, 400, 400};
        for (int level = 0; level < 6; level++) {
            said.due("told(0, " + level + ")", desk.told(0, level, 0, 0), want[level]);
        }
    }

    private void winds(FlightDesk desk, int world, int leg, int... want) {
        for (int level = 0; level < 6; level++) {
            said.due("told(1, " + world + ", " + level + ", " + leg + ")", desk.told(1, world, level, leg), want[level]);
        }
    }

    private void windAsTold() {
        FlightDesk desk = said.taken(1, "leg 0 1 5; wind 0 0 0 1; wind 0 1 0 -2; wind 0 2 0 0; wind 0 3 0 4; wind 0 4 0 -5;"
            + "wind 0 5 0 6;");
        winds(desk, 0, 0, 1, -2, 0, 4, -5, 6);
    }

    private void windFromBelow() {
        FlightDesk desk = said.taken(2, "leg 0 1 5; leg 0 1 5; wind 1 1 0 -30; wind 1 4 0 40; wind 2 0 1 7;");
        winds(desk, 1, 0, 0, -30, -30, -30, 40, 40);
        winds(desk, 2, 1, 7, 7, 7, 7, 7, 7);
        winds(desk, 1, 1, 0, 0, 0, 0, 0, 0);
        winds(desk, 2, 0, 0, 0, 0, 0, 0, 0);
        winds(said.taken(1, "leg 0 1 5; wind 0 0 0 9; wind 0 3 0 0;"), 0, 0, 9, 9, 9, 0, 0, 0);
    }

    private void windElseNothing() {
        winds(said.taken(1, "leg 0 1 5; wind 0 5 0 9;"), 0, 0, 0, 0, 0, 0, 0, 9);
        FlightDesk desk = said.taken(16, "leg 0 1 5;".repeat(16));
        for (int world = 0; world < 3; world++) {
            winds(desk, world, 0, 0, 0, 0, 0, 0, 0);
            winds(desk, world, 15, 0, 0, 0, 0, 0, 0);
        }
    }

    private void burns(FlightDesk desk, int level, int... want) {
        for (int band = 0; band < 5; band++) {
            said.due("told(2, " + level + ", " + band + ")", desk.told(2, level, band, 0), want[band]);
        }
    }

    private void burnAsTold() {
        burns(said.taken(0, "burn 5 0 1; burn 5 1 2; burn 5 2 2; burn 5 3 4; burn 5 4 9999;"), 5, 1, 2, 2, 4, 9999);
    }

    private void burnFromBelow() {
        FlightDesk desk = said.taken(0, "burn 3 0 100; burn 3 2 200; burn 2 0 7;");
        burns(desk, 3, 100, 100, 200, 200, 200);
        burns(desk, 2, 7, 7, 7, 7, 7);
        burns(said.taken(0, "burn 0 1 100; burn 0 4 400;"), 0, 100, 100, 100, 100, 400);
    }

    private void burnFromAbove() {
        burns(said.taken(0, "burn 0 4 50;"), 0, 50, 50, 50, 50, 50);
        burns(said.taken(0, "burn 0 2 50; burn 0 4 90;"), 0, 50, 50, 50, 50, 90);
        burns(said.taken(0, "burn 0 1 2000; burn 0 3 3000;"), 0, 2000, 2000, 2000, 3000, 3000);
    }

    private void burnElse() {
        FlightDesk desk = said.taken(0, "burn 1 0 50;");
        burns(desk, 0, 1000, 1000, 1000, 1000, 1000);
        burns(desk, 2, 1000, 1000, 1000, 1000, 1000);
    }

    private void climbLedOn() {
        FlightDesk desk = said.taken(1, "leg 0 1 400 at 0 5; climb 0 7; climb 3 50; burn 0 0 9999; burn 1 0 9999; "
            + "burn 2 0 9999; burn 4 0 9999; burn 5 0 9999;");
        int[] want = {7, 0, 0, 50, 0, 0};
        for (int level = 0; level < 6; level++) {
            said.due("told(3, " + level + ")", desk.told(3, level, 0, 0), want[level]);
        }
        desk.flight(0, 1, 0, 0, 0);
        said.due("from the ground to LEVEL 3", desk.need(0), 1000 + 7 + 50);
    }

    private void limitsLedOn() {
        FlightDesk desk = said.taken(0, "");
        int[] want = {30000, 60000, 60000, 0};
        for (int i = 0; i < 4; i++) {
            said.due("told(" + (4 + i) + ")", desk.told(4 + i, 0, 0, 0), want[i]);
        }
    }
}
