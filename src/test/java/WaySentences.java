/** "Terms" from ==== 2 to ==== 3: what a LEG takes, WAYS and their NEED, LEGAL and BORNE. */
final class WaySentences {
    private final Sentences said;

    WaySentences(Sentences said) {
        this.said = said;
    }

    void walk() {
        said.section("Terms");
        walkLegs();
        walkWays();
        walkLaws();
    }

    private void walkLegs() {
        said.holds("==== 2. A LEG on a LEVEL in a WORLD takes minutes: miles * 60 / (SPEED + WIND), rounded up;", this::minutes);
        said.holds("it can't be flown if SPEED + WIND is below 50,", this::tooSlow);
        said.holds("the LEVEL is none of its own,", this::levelNotItsOwn);
        said.holds("or the DAY of the flight none of its days.", this::dayNotItsOwn);
        said.holds("It takes fuel: minutes * BURN / 60, rounded up;", this::fuel);
        said.holds("the BAND is that of the WEIGHT at its end:", this::bandAtItsEnd);
        said.holds("DRY, PAYLOAD and the fuel there is then,", this::weight);
        said.holds("/ 1000 (4 at most).", this::bands);
        said.holds("Behind it one may go to another LEVEL: up it takes the CLIMBS between,", this::climbsBetween);
        said.holds("down nothing.", this::downNothing);
    }

    private void walkWays() {
        said.holds("A WAY from a POINT to another one: LEGS one behind the other,", this::oneBehindTheOther);
        said.holds("each on a LEVEL,", this::eachOnALevel);
        said.holds("no LEG twice;", this::noLegTwice);
        said.holds("first the CLIMBS from the ground.", this::climbsFromTheGround);
        said.holds("NEED of it in a WORLD: the fuel on the ground with which just RESERVE is left at its end,", this::justReserve);
        said.holds("reckoned from its end back.", this::fromItsEndBack);
        said.holds("BEST in a WORLD has the least NEED;", this::leastNeed);
        said.holds("of like ones the first by LEG and LEVEL, one after the other", this::oneAfterTheOther);
        said.holds("(least LEG, then least LEVEL;", this::leastLegThenLevel);
        said.holds("one that ends ahead of one that goes on).", this::endsAheadOfGoesOn);
    }

    private void walkLaws() {
        said.holds("It is LEGAL, if NEED is TANK at most,", this::tankAtMost);
        said.holds("DRY, PAYLOAD and NEED together MOST at most,", this::mostAtMost);
        said.holds("and DRY, PAYLOAD and RESERVE together LAND at most.", this::landAtMost);
        said.holds("BORNE by n WORLDS: of the BESTS of WORLDS 0 .. n - 1", this::bestsOnly);
        said.holds("the least of the greatest of their NEEDS in all these", this::leastOfGreatest);
        said.holds("(one that can't be flown in one of them is none).", this::noneThatCannotBeFlown);
    }

    private static FlightDesk flown(String text, int from, int to, int payload, int reserve) {
        FlightDesk desk = Check.desk(text);
        desk.flight(from, to, 0, payload, reserve);
        return desk;
    }

    // ---- what a leg takes

    private void minutes() {
        int[][] rows = {
            // miles, speed, wind, minutes
            {400, 400, 0, 60}, {401, 400, 0, 61}, {399, 400, 0, 60}, {393, 400, 0, 59}, {394, 400, 0, 60},
            {1, 999, 400, 1}, {1, 400, 0, 1}, {20, 400, 0, 3}, {21, 400, 0, 4}, {999, 100, -50, 1199},
            {1, 100, -41, 2}, {1, 100, -40, 1}, {1, 100, -39, 1}, {10, 100, -40, 10}, {11, 100, -40, 11},
            {999, 999, 0, 60}, {999, 999, -1, 61}, {999, 999, 1, 60},
        };
        for (int[] row : rows) {
            FlightDesk desk = flown("leg 0 1 " + row[0] + "; speed 3 " + row[1] + "; wind 1 3 0 " + row[2] + ";", 0, 1, 0, 0);
            said.due("minutes of " + row[0] + " by " + row[1] + " and " + row[2], desk.minutes(0, 3, 1), row[3]);
        }
    }

    private void tooSlow() {
        int[][] rows = {{100, -50, 60}, {100, -51, -1}, {100, -49, 59}, {100, -100, -1}, {100, -99, -1}, {100, -400, -1},
            {400, -350, 60}, {400, -351, -1}, {400, -400, -1}, {449, -399, 60}, {449, -400, -1}, {450, -400, 60}};
        for (int[] row : rows) {
            FlightDesk desk = flown("leg 0 1 50 at 0 0; speed 0 " + row[0] + "; wind 0 0 0 " + row[1] + ";", 0, 1, 0, 0);
            String by = " by " + row[0] + " and " + row[1];
            boolean can = row[2] >= 0;
            said.due("minutes" + by, desk.minutes(0, 0, 0), row[2]);
            said.due("minutes in another WORLD" + by, desk.minutes(0, 0, 1), (50 * 60 + row[0] - 1) / row[0]);
            said.due("fuel is none" + by, desk.fuel(0, 0, 0, 0) == -1, !can);
            said.due("need is none" + by, desk.need(0) == -1, !can);
            said.due("need in another WORLD is none" + by, desk.need(1) == -1, false);
        }
    }

    private void levelNotItsOwn() {
        FlightDesk desk = flown("leg 0 1 400 at 2 3; leg 0 2 400 at 0 0; leg 0 3 400 at 5 5;", 0, 1, 0, 0);
        int[][] own = {{2, 3}, {0, 0}, {5, 5}};
        for (int leg = 0; leg < 3; leg++) {
            for (int level = 0; level < 6; level++) {
                boolean can = level >= own[leg][0] && level <= own[leg][1];
                said.due("minutes(" + leg + ", " + level + ", 0)", desk.minutes(leg, level, 0), can ? 60 : -1);
                said.due("fuel(" + leg + ", " + level + ", 0, 0)", desk.fuel(leg, level, 0, 0), can ? 1000 : -1);
            }
        }
        desk = flown("leg 0 1 400 at 2 3; burn 0 0 1; burn 1 0 1; burn 2 0 70; burn 3 0 60; burn 4 0 1; burn 5 0 1;", 0, 1, 0, 0);
        said.due("need", desk.need(0), 60);
        said.due("its LEVEL", desk.leg(0, 0, 1), 3);
    }

    private void dayNotItsOwn() {
        FlightDesk desk = Check.desk("leg 0 1 400 from 10 20; leg 1 2 400 from 0 0; leg 2 3 400 from 999 999; leg 3 4 400 from 7 7;");
        int[] days = {0, 1, 6, 7, 8, 9, 10, 11, 19, 20, 21, 998, 999};
        for (int day : days) {
            boolean[] can = {day >= 10 && day <= 20, day == 0, day == 999, day == 7};
            for (int leg = 0; leg < 4; leg++) {
                desk.flight(leg, leg + 1, day, 0, 0);
                said.due("minutes of LEG " + leg + " on " + day, desk.minutes(leg, 0, 0), can[leg] ? 60 : -1);
                said.due("fuel of LEG " + leg + " on " + day, desk.fuel(leg, 0, 0, 0), can[leg] ? 1000 : -1);
                said.due("need by LEG " + leg + " on " + day, desk.need(0), can[leg] ? 1000 : -1);
            }
        }
    }

    private void fuel() {
        int[][] rows = {
            // miles (at 60 an hour: as many minutes), burn, fuel
            {60, 60, 60}, {60, 61, 61}, {1, 60, 1}, {1, 61, 2}, {1, 59, 1}, {1, 1, 1}, {59, 1, 1}, {60, 1, 1}, {61, 1, 2},
            {999, 9999, 166484}, {7, 100, 12}, {6, 100, 10}, {3, 100, 5}, {2, 100, 4},
        };
        for (int[] row : rows) {
            FlightDesk desk = flown("leg 0 1 " + row[0] + " at 0 0; speed 0 100; wind 0 0 0 -40; burn 0 0 " + row[1] + ";",
                0, 1, 0, 0);
            said.due("minutes of " + row[0], desk.minutes(0, 0, 0), row[0]);
            said.due("fuel of " + row[0] + " by " + row[1], desk.fuel(0, 0, 0, 0), row[2]);
            said.due("need of " + row[0] + " by " + row[1], desk.need(0), row[2]);
        }
    }

    /** A LEG of an hour on LEVEL 0, by BANDS 60, 120, 180, 240 and 300. */
    private static String banded(String more) {
        return "leg 0 1 400 at 0 0; burn 0 0 60; burn 0 1 120; burn 0 2 180; burn 0 3 240; burn 0 4 300;" + more;
    }

    private void bandAtItsEnd() {
        FlightDesk desk = flown(banded(""), 0, 1, 0, 999);
        said.due("999 at its end", desk.need(0), 999 + 60);
        desk.flight(0, 1, 0, 0, 1000);
        said.due("1000 at its end", desk.need(0), 1000 + 120);
        desk = flown(banded("leg 1 2 400 at 0 0;"), 0, 2, 0, 939);
        said.due("939, then 999", desk.need(0), 939 + 60 + 60);
        desk.flight(0, 2, 0, 0, 940);
        said.due("940, then 1000", desk.need(0), 940 + 60 + 120);
        // The CLIMB behind a LEG is no more of its end than of its start: it is burnt behind it, from what was left.
        desk = flown("leg 0 1 400 at 0 0; leg 1 2 400 at 1 1; burn 0 0 60; burn 0 1 120; burn 1 0 60; climb 1 40;", 0, 2, 0, 899);
        said.due("899, 959, with the CLIMB 999", desk.need(0), 999 + 60);
        desk.flight(0, 2, 0, 0, 900);
        said.due("900, 960, with the CLIMB 1000", desk.need(0), 1000 + 120);
        // The CLIMB ahead of a LEG is not there any more at its end.
        desk = flown("leg 0 1 400 at 0 0; burn 0 0 60; burn 0 1 120; climb 0 500;", 0, 1, 0, 999);
        said.due("999 with a CLIMB ahead", desk.need(0), 999 + 60 + 500);
    }

    private void weight() {
        int[][] rows = {
            // dry, payload, left, fuel
            {0, 0, 999, 60}, {0, 0, 1000, 120}, {0, 999, 0, 60}, {0, 1000, 0, 120}, {999, 0, 0, 60}, {1000, 0, 0, 120},
            {333, 333, 333, 60}, {333, 333, 334, 120}, {333, 334, 333, 120}, {334, 333, 333, 120},
            {1000, 1000, 999, 180}, {1000, 1000, 1000, 240}, {60000, 30000, 60000, 300},
        };
        for (int[] row : rows) {
            FlightDesk desk = flown(banded("dry " + row[0] + ";"), 0, 1, row[1], 0);
            said.due("fuel by " + row[0] + ", " + row[1] + " and " + row[2], desk.fuel(0, 0, 0, row[2]), row[3]);
        }
    }

    private void bands() {
        int[][] rows = {{0, 60}, {999, 60}, {1000, 120}, {1999, 120}, {2000, 180}, {2999, 180}, {3000, 240}, {3999, 240},
            {4000, 300}, {4999, 300}, {5000, 300}, {5999, 300}, {6000, 300}, {59999, 300}, {60000, 300}};
        FlightDesk desk = flown(banded(""), 0, 1, 0, 0);
        for (int[] row : rows) {
            said.due("fuel with " + row[0] + " left", desk.fuel(0, 0, 0, row[0]), row[1]);
        }
        for (int[] row : rows) {
            if (row[0] <= 10000) {
                desk.flight(0, 1, 0, 0, row[0]);
                said.due("need with RESERVE " + row[0], desk.need(0), row[0] + row[1]);
            }
            if (row[0] <= 30000) {
                desk.flight(0, 1, 0, row[0], 0);
                said.due("need with PAYLOAD " + row[0], desk.need(0), row[1]);
            }
        }
    }

    /** Two LEGS of an hour, one on each of the LEVELS, each burning 60. */
    private static String twoLevels(int first, int second) {
        StringBuilder text = new StringBuilder("leg 0 1 400 at " + first + " " + first + ";");
        text.append("leg 1 2 400 at ").append(second).append(' ').append(second).append(';');
        for (int level = 0; level < 6; level++) {
            text.append("burn ").append(level).append(" 0 60; climb ").append(level).append(' ').append(1 << level).append(';');
        }
        return text.toString();
    }

    private void climbsBetween() {
        for (int first = 0; first < 6; first++) {
            for (int second = first; second < 6; second++) {
                FlightDesk desk = flown(twoLevels(first, second), 0, 2, 0, 0);
                int ground = (1 << first + 1) - 1;
                int between = (1 << second + 1) - (1 << first + 1);
                said.due("need by LEVELS " + first + ", " + second, desk.need(0), 120 + ground + between);
                said.due("at(0, NEED, 1)", desk.at(0, desk.need(0), 1), 60 + between);
            }
        }
        // CLIMBS of 0 between are nothing.
        FlightDesk desk = flown("leg 0 1 400 at 0 0; leg 1 2 400 at 5 5; burn 0 0 60; burn 5 0 60;", 0, 2, 0, 0);
        said.due("without CLIMBS", desk.need(0), 120);
    }

    private void downNothing() {
        for (int first = 1; first < 6; first++) {
            for (int second = 0; second < first; second++) {
                FlightDesk desk = flown(twoLevels(first, second), 0, 2, 0, 0);
                int ground = (1 << first + 1) - 1;
                said.due("need by LEVELS " + first + ", " + second, desk.need(0), 120 + ground);
                said.due("at(0, NEED, 1)", desk.at(0, desk.need(0), 1), 60);
            }
        }
    }

    // ---- ways

    private void oneBehindTheOther() {
        said.due("no LEGS", flown("", 0, 1, 0, 0).need(0), -1);
        said.due("no LEG from there", flown("leg 2 1 5;", 0, 1, 0, 0).need(0), -1);
        said.due("no LEG to there", flown("leg 0 2 5;", 0, 1, 0, 0).need(0), -1);
        said.due("a gap", flown("leg 0 2 5; leg 3 1 5;", 0, 1, 0, 0).need(0), -1);
        said.due("one against the way", flown("leg 0 2 5; leg 1 2 5;", 0, 1, 0, 0).need(0), -1);
        said.due("told the other way round", flown("leg 2 1 400; leg 0 2 400;", 0, 1, 0, 0).need(0), 2000);
        chain(true);
        chain(false);
    }

    /** Through all ten POINTS, the LEGS told from the first or from the last on; back is by one LEG. */
    private void chain(boolean fromTheFirst) {
        StringBuilder text = new StringBuilder();
        for (int i = 0; i < 9; i++) {
            int point = fromTheFirst ? i : 8 - i;
            text.append("leg ").append(point).append(' ').append(point + 1).append(" 400 at 0 0;");
        }
        FlightDesk desk = flown(text + "leg 9 0 400 at 0 0; burn 0 0 60;", 0, 9, 0, 0);
        said.due("need through all POINTS", desk.need(0), 9 * 60);
        said.due("legs through all POINTS", desk.legs(0), 9);
        said.due("time through all POINTS", desk.time(0), 9 * 60);
        for (int k = 0; k < 9; k++) {
            said.due("leg(0, " + k + ", 0)", desk.leg(0, k, 0), fromTheFirst ? k : 8 - k);
            said.due("at(0, 1080, " + k + ")", desk.at(0, 1080, k), 1080 - 60 * k);
            said.due("home(0, " + k + ")", desk.home(0, k), k == 0 ? 0 : 60 * (10 - k));
        }
        said.due("home of the last", desk.home(0, 9), 60);
        said.due("lastReturn at NEED", desk.lastReturn(0, 540), 0);
        said.due("lastReturn, less by one", desk.lastReturn(0, 599), 0);
        said.due("lastReturn of all", desk.lastReturn(0, 600), 9);
    }

    private void eachOnALevel() {
        // LEG 0 is best on LEVEL 4, LEG 1 on LEVEL 2, LEG 2 on LEVEL 5.
        FlightDesk desk = flown("leg 0 1 400; leg 1 2 400; leg 2 3 400; wind 0 4 0 200; wind 0 5 0 0; wind 0 2 1 200; "
            + "wind 0 3 1 0; wind 0 5 2 200; burn 0 0 60; burn 1 0 60; burn 2 0 60; burn 3 0 60; burn 4 0 60; burn 5 0 60;",
            0, 3, 0, 0);
        int[] want = {4, 2, 5};
        for (int k = 0; k < 3; k++) {
            said.due("leg(0, " + k + ", 1)", desk.leg(0, k, 1), want[k]);
        }
        said.due("need", desk.need(0), 120);
        said.due("need without wind", desk.need(1), 180);
    }

    private void noLegTwice() {
        // Rounds by each POINT, some of them for the least that a LEG can take.
        FlightDesk desk = flown("leg 0 1 400 at 0 0; leg 1 0 1 at 0 0; leg 1 2 400 at 0 0; leg 2 1 1 at 0 0; "
            + "leg 2 0 1 at 0 0; leg 2 3 400 at 0 0; leg 3 2 1 at 0 0; burn 0 0 60;", 0, 3, 0, 0);
        int[] want = {0, 2, 5};
        said.due("legs", desk.legs(0), 3);
        for (int k = 0; k < 3; k++) {
            said.due("leg(0, " + k + ", 0)", desk.leg(0, k, 0), want[k]);
        }
        said.due("need", desk.need(0), 180);
        // One LEG and back: the goal is not reached by going round.
        said.due("no WAY", flown("leg 0 1 5; leg 1 0 5;", 0, 2, 0, 0).need(0), -1);
    }

    private void climbsFromTheGround() {
        int[] want = {1, 3, 7, 15, 31, 63};
        for (int level = 0; level < 6; level++) {
            FlightDesk desk = flown(twoLevels(level, level), 0, 1, 0, 0);
            said.due("need on LEVEL " + level, desk.need(0), 60 + want[level]);
            said.due("its first POINT", desk.at(0, 60 + want[level], 0), 60 + want[level]);
            said.due("its fuel alone", desk.leg(0, 0, 3), 60);
        }
        FlightDesk most = flown("leg 0 1 400 at 5 5; burn 5 0 60; climb 0 999; climb 1 999; climb 2 999; climb 3 999; "
            + "climb 4 999; climb 5 999;", 0, 1, 0, 0);
        said.due("the most CLIMBS", most.need(0), 60 + 6 * 999);
    }

    private void justReserve() {
        int[] reserves = {0, 1, 939, 940, 999, 1000, 3999, 4000, 10000};
        for (int reserve : reserves) {
            FlightDesk desk = flown(banded("leg 1 2 400 at 0 0; climb 0 5;"), 0, 2, 0, reserve);
            said.due("the end with RESERVE " + reserve, desk.at(0, desk.need(0), 2), reserve);
            said.due("below NEED with RESERVE " + reserve, desk.at(0, desk.need(0) - 1, 2), -1);
        }
        said.due("need of RESERVE 0", flown(banded(""), 0, 1, 0, 0).need(0), 60);
        said.due("need of RESERVE 10000", flown(banded(""), 0, 1, 0, 10000).need(0), 10300);
    }

    private void fromItsEndBack() {
        // 950, then 1010 in BAND 1 for the LEG ahead: by its start it would be in BAND 1 for both.
        FlightDesk desk = flown(banded("leg 1 2 400 at 0 0;"), 0, 2, 0, 950);
        said.due("need", desk.need(0), 950 + 60 + 120);
        said.due("fuel of the first", desk.leg(0, 0, 3), 120);
        said.due("fuel of the last", desk.leg(0, 1, 3), 60);
    }

    private void leastNeed() {
        FlightDesk desk = flown("leg 0 1 400 at 0 0; leg 0 1 394 at 0 0; leg 0 1 393 at 0 0; burn 0 0 60;", 0, 1, 0, 0);
        said.due("less by one", desk.need(0), 59);
        said.due("its LEG", desk.leg(0, 0, 0), 2);
        // Two LEGS may need less than one; less minutes are not less fuel.
        desk = flown("leg 0 2 400 at 0 0; leg 0 1 220 at 1 1; leg 1 2 220 at 1 1; burn 0 0 100; burn 1 0 60;", 0, 2, 0, 0);
        said.due("two LEGS", desk.need(0), 66);
        said.due("their time", desk.time(0), 66);
        said.due("legs", desk.legs(0), 2);
        // The greater burn below a BAND can be less in all: by 940 LEG 1 ends with 1000.
        desk = flown("leg 0 1 400 at 0 0; leg 0 1 400 at 1 1; burn 0 0 60; burn 0 1 200; burn 1 0 61;", 0, 1, 0, 999);
        said.due("below a BAND", desk.leg(0, 0, 0), 0);
        desk.flight(0, 1, 0, 0, 1000);
        said.due("above a BAND", desk.leg(0, 0, 0), 1);
        // Each WORLD has its own.
        desk = flown("leg 0 1 400 at 0 0; leg 0 1 400 at 0 0; wind 0 0 0 1; wind 1 0 1 20; wind 2 0 0 -400; burn 0 0 60;", 0, 1, 0, 0);
        said.due("WORLD 0", desk.leg(0, 0, 0), 0);
        said.due("WORLD 1", desk.leg(1, 0, 0), 1);
        said.due("WORLD 2", desk.leg(2, 0, 0), 1);
    }

    private void best(FlightDesk desk, int... want) {
        said.due("legs(0)", desk.legs(0), want.length / 2);
        for (int k = 0; k < want.length / 2; k++) {
            said.due("leg(0, " + k + ", 0)", desk.leg(0, k, 0), want[2 * k]);
            said.due("leg(0, " + k + ", 1)", desk.leg(0, k, 1), want[2 * k + 1]);
        }
    }

    private void oneAfterTheOther() {
        // The first LEG's LEVEL goes ahead of the second's number: on LEVEL 1 LEG 1, on LEVEL 2 LEG 0 would do.
        best(flown("leg 1 2 400 at 2 2; leg 1 2 400 at 1 1; leg 0 1 400 at 1 2;", 0, 2, 0, 0), 2, 1, 0, 2);
        best(flown("leg 1 2 400 at 2 2; leg 1 2 400 at 1 1; leg 0 1 400 at 1 2; climb 2 5;", 0, 2, 0, 0), 2, 1, 1, 1);
        // The first LEG goes ahead of all behind it.
        best(flown("leg 2 3 400; leg 0 1 400; leg 0 2 400; leg 1 3 400;", 0, 3, 0, 0), 1, 0, 3, 0);
        best(flown("leg 2 3 400; leg 0 2 400; leg 0 1 400; leg 1 3 400;", 0, 3, 0, 0), 1, 0, 0, 0);
        // One LEG of a greater number or two of a lesser first one.
        best(flown("leg 1 2 400; leg 0 1 400; leg 0 2 800;", 0, 2, 0, 0), 1, 0, 0, 0);
        best(flown("leg 1 2 400; leg 0 2 800; leg 0 1 400;", 0, 2, 0, 0), 1, 0);
    }

    private void leastLegThenLevel() {
        best(flown("leg 0 1 400; leg 0 1 400;", 0, 1, 0, 0), 0, 0);
        best(flown("leg 0 1 400 at 3 5; leg 0 1 400 at 1 5;", 0, 1, 0, 0), 0, 3);
        best(flown("leg 0 1 400; leg 0 1 400; burn 0 0 1001; burn 1 0 1001;", 0, 1, 0, 0), 0, 2);
        best(flown("leg 0 1 400; leg 0 1 400; wind 0 0 1 7;", 0, 1, 0, 0), 1, 0);
        best(flown("leg 0 1 400; leg 1 2 400; leg 1 2 400;", 0, 2, 0, 0), 0, 0, 1, 0);
        best(flown("leg 0 1 400; leg 1 2 400; leg 1 2 400; climb 0 9;", 0, 2, 0, 0), 0, 0, 1, 0);
        // Down is nothing, so LEVEL 0 behind LEVEL 5 is as good as LEVEL 5.
        best(flown("leg 0 1 400 at 5 5; leg 1 2 400;", 0, 2, 0, 0), 0, 5, 1, 0);
        // LEVEL 1 now or later costs the same: the least LEVEL first.
        best(flown("leg 0 1 400 at 0 1; leg 1 2 400 at 1 1; climb 1 9;", 0, 2, 0, 0), 0, 0, 1, 1);
        // The greatest LEG and LEVEL that there are.
        best(flown("leg 1 0 5;".repeat(15) + "leg 0 1 400 at 5 5;", 0, 1, 0, 0), 15, 5);
    }

    private void endsAheadOfGoesOn() {
        best(flown("leg 0 1 400; leg 1 2 1; leg 2 1 1;", 0, 1, 0, 0), 0, 0);
        best(flown("leg 1 2 1; leg 2 1 1; leg 0 1 400;", 0, 1, 0, 0), 2, 0);
        best(flown("leg 1 0 1; leg 0 1 1 at 0 0; leg 0 1 400; burn 0 0 1;", 0, 1, 0, 0), 1, 0);
    }

    // ---- laws and worlds

    /** A LEG of an hour that burns 100. */
    private static FlightDesk hundred(String limits, int payload, int reserve) {
        return flown("leg 0 1 400 at 0 0; burn 0 0 100;" + limits, 0, 1, payload, reserve);
    }

    private void tankAtMost() {
        said.due("TANK full", hundred("tank 300;", 0, 200).legal(0), 0);
        said.due("above TANK", hundred("tank 299;", 0, 200).legal(0), 1);
        said.due("TANK of 0", hundred("tank 0;", 0, 0).legal(0), 1);
        said.due("TANK is not of the weight", hundred("tank 300; dry 5000;", 5000, 200).legal(0), 0);
        said.due("the CLIMBS too", hundred("tank 300; climb 0 1;", 0, 200).legal(0), 1);
        said.due("all three broken", hundred("tank 299; most 299; land 199;", 0, 200).legal(0), 1);
        FlightDesk desk = flown("leg 0 1 999 at 0 0; speed 0 100; burn 0 0 3004;", 0, 1, 0, 0);
        said.due("30010 by 600 minutes", desk.need(0), 30040);
        said.due("above the TANK that is not told", desk.legal(0), 1);
        desk = flown("leg 0 1 999 at 0 0; speed 0 100; burn 0 0 3000;", 0, 1, 0, 0);
        said.due("30000 by 600 minutes", desk.need(0), 30000);
        said.due("the TANK that is not told, full", desk.legal(0), 0);
    }

    private void mostAtMost() {
        said.due("MOST full", hundred("most 400; dry 60;", 40, 200).legal(0), 0);
        said.due("above MOST by DRY", hundred("most 400; dry 61;", 40, 200).legal(0), 2);
        said.due("above MOST by PAYLOAD", hundred("most 400; dry 60;", 41, 200).legal(0), 2);
        said.due("above MOST by NEED", hundred("most 400; dry 60;", 40, 201).legal(0), 2);
        said.due("MOST and LAND broken", hundred("most 299; land 199;", 0, 200).legal(0), 2);
        said.due("the MOST that is not told, full", hundred("dry 29000;", 30000, 900).legal(0), 0);
        said.due("above it", hundred("dry 29000;", 30000, 901).legal(0), 2);
        said.due("far above it", hundred("dry 60000;", 30000, 10000).legal(0), 2);
    }

    private void landAtMost() {
        said.due("LAND full", hundred("land 300; dry 60;", 40, 200).legal(0), 0);
        said.due("above LAND by DRY", hundred("land 300; dry 61;", 40, 200).legal(0), 3);
        said.due("above LAND by PAYLOAD", hundred("land 300; dry 60;", 41, 200).legal(0), 3);
        said.due("above LAND by RESERVE", hundred("land 300; dry 60;", 40, 201).legal(0), 3);
        said.due("LAND of 0, nothing left", hundred("land 0;", 0, 0).legal(0), 0);
        said.due("LAND of 0", hundred("land 0;", 0, 1).legal(0), 3);
    }

    private void bestsOnly() {
        // LEG 2 would be borne by 69, but is BEST nowhere; LEG 0 takes 60 and 240, LEG 1 120 and 60.
        FlightDesk desk = flown("leg 0 1 400 at 0 0; leg 0 1 400 at 0 0; leg 0 1 400 at 0 0; burn 0 0 60; "
            + "wind 0 0 1 -200; wind 1 0 0 -300; wind 0 0 2 -50; wind 1 0 2 -50; wind 2 0 0 -300; wind 2 0 1 -300;", 0, 1, 0, 0);
        said.due("borne(1)", desk.borne(1), 60);
        said.due("borne(2)", desk.borne(2), 120);
        said.due("borne(3), LEG 2 is BEST in WORLD 2", desk.borne(3), 69);
        said.due("need(2)", desk.need(2), 60);
    }

    private void leastOfGreatest() {
        // By WORLD: LEG 0 takes 60, 80, 240; LEG 1 80, 60, 120; LEG 2 120, 120, 80.
        FlightDesk desk = flown("leg 0 1 400 at 0 0; leg 0 1 400 at 0 0; leg 0 1 400 at 0 0; burn 0 0 60; "
            + "wind 1 0 0 -100; wind 2 0 0 -300; wind 0 0 1 -100; wind 2 0 1 -200; wind 0 0 2 -200; wind 1 0 2 -200; "
            + "wind 2 0 2 -100;", 0, 1, 0, 0);
        said.due("borne(1)", desk.borne(1), 60);
        said.due("borne(2)", desk.borne(2), 80);
        said.due("borne(3)", desk.borne(3), 120);
        // The greatest stands in the first, the middle and the last WORLD.
        for (int world = 0; world < 3; world++) {
            desk = flown("leg 0 1 400 at 0 0; burn 0 0 60; wind " + world + " 0 0 -200;", 0, 1, 0, 0);
            said.due("borne(1), slow in " + world, desk.borne(1), world == 0 ? 120 : 60);
            said.due("borne(2), slow in " + world, desk.borne(2), world <= 1 ? 120 : 60);
            said.due("borne(3), slow in " + world, desk.borne(3), 120);
        }
        // With RESERVE and CLIMBS.
        desk = flown("leg 0 1 400 at 1 1; burn 1 0 60; climb 0 3; climb 1 4; wind 1 1 0 -200;", 0, 1, 0, 50);
        said.due("borne(2)", desk.borne(2), 120 + 7 + 50);
    }

    private void noneThatCannotBeFlown() {
        // LEG 0 can't be flown in WORLD 1, LEG 1 can be in both.
        FlightDesk desk = flown("leg 0 1 400 at 0 0; leg 0 1 400 at 0 0; burn 0 0 60; wind 1 0 0 -351; wind 0 0 1 -200;", 0, 1, 0, 0);
        said.due("LEG 0 for one", desk.borne(1), 60);
        said.due("LEG 1 for two", desk.borne(2), 120);
        said.due("LEG 1 for three", desk.borne(3), 120);
        desk = flown("leg 0 1 400 at 0 0; leg 0 1 400 at 0 0; burn 0 0 60; wind 1 0 0 -350; wind 0 0 1 -200;", 0, 1, 0, 0);
        said.due("LEG 0 can just be flown", desk.need(1), 60);
        said.due("borne(2)", desk.borne(2), 120);
        // LEG 0 can't be flown in WORLD 1, nor LEG 1 in WORLD 0.
        desk = flown("leg 0 1 400 at 0 0; leg 0 1 400 at 0 0; wind 0 0 1 -351; wind 1 0 0 -351;", 0, 1, 0, 0);
        said.due("none for two", desk.borne(2), -1);
        said.due("none for three", desk.borne(3), -1);
        said.due("LEG 0 for one", desk.borne(1), 1000);
        desk = flown("leg 0 1 400 at 0 0; wind 2 0 0 -351;", 0, 1, 0, 0);
        said.due("no WAY in WORLD 2", desk.borne(3), -1);
        said.due("two are borne", desk.borne(2), 1000);
    }
}
