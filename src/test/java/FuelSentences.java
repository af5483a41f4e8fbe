/** "Terms" from ==== 3 on: fuel along BEST, RETURN, LAST RETURN and CARRIED ON. */
final class FuelSentences {
    private final Sentences said;

    FuelSentences(Sentences said) {
        this.said = said;
    }

    void walk() {
        said.section("Terms");
        said.holds("==== 3. On BEST with so much fuel on the ground (NEED .. 60000):", this::needToSixtyThousand);
        said.holds("fuel at a POINT of it: what is left as one comes there;", this::asOneComesThere);
        said.holds("of what there is ahead of a LEG (the CLIMBS to its LEVEL taken off)", this::climbsTakenOff);
        said.holds("the greatest amount is left behind it that, with the fuel that the LEG takes if that is left, is not above it.",
            this::greatestAmount);
        said.holds("RETURN of a POINT: the least fuel by which,", this::leastFuel);
        said.holds("there and on the LEVEL on which one comes,", this::levelOnWhichOneComes);
        said.holds("one could go back to the first POINT by a WAY with RESERVE at its end", this::backByAWay);
        said.holds("(the CLIMBS from that LEVEL on).", this::climbsFromThatLevel);
        said.holds("The LAST RETURN is the last POINT of it (by number along it, 0 the first)", this::lastPoint);
        said.holds("whose fuel is its RETURN or more,", this::returnOrMore);
        said.holds("and of all ahead of it, too.", this::allAheadToo);
        said.holds("CARRIED ON: fuel x (0 .. 500)", this::carriedUpTo500);
        said.holds("that is left at the end of BEST (its LEGS on its LEVELS) beside RESERVE;", this::carriedOnBest);
        said.holds("it costs PRICE here for all fuel on the ground then, less PRICE there for x;", this::cost);
        said.holds("LEGAL it must be (with RESERVE and x for RESERVE).", this::carriedLegally);
        said.holds("The least cost, of like ones the least x.", this::leastCost);
        said.holds("The constants: `NONE = -1`: There is none.", this::none);
    }

    private static FlightDesk flown(String text, int from, int to, int payload, int reserve) {
        FlightDesk desk = Check.desk(text);
        desk.flight(from, to, 0, payload, reserve);
        return desk;
    }

    /** A LEG of an hour on LEVEL 0, by BANDS 60, 120, 180, 240 and 300. */
    private static String banded(String more) {
        return "leg 0 1 400 at 0 0; burn 0 0 60; burn 0 1 120; burn 0 2 180; burn 0 3 240; burn 0 4 300;" + more;
    }

    // ---- fuel along it

    private void needToSixtyThousand() {
        FlightDesk desk = flown(banded(""), 0, 1, 0, 100);
        int[][] rows = {{159, -1}, {160, 160}, {161, 161}, {59999, 59999}, {60000, 60000}, {60001, -1}, {0, -1}, {-1, -1},
            {Integer.MIN_VALUE, -1}, {Integer.MAX_VALUE, -1}};
        for (int[] row : rows) {
            said.due("at(0, " + row[0] + ", 0)", desk.at(0, row[0], 0), row[1]);
            said.due("lastReturn(0, " + row[0] + ")", desk.lastReturn(0, row[0]), row[1] < 0 ? -1 : 0);
        }
        // NEED of just 60000, and of 60001: 600 minutes by 5000 take 50000.
        desk = flown("leg 0 1 999 at 0 0; speed 0 100; burn 0 0 5000;", 0, 1, 0, 10000);
        said.due("need", desk.need(0), 60000);
        said.due("at(0, 60000, 1)", desk.at(0, 60000, 1), 10000);
        said.due("lastReturn(0, 60000)", desk.lastReturn(0, 60000), 0);
        desk = flown("leg 0 1 999 at 0 0; speed 0 100; burn 0 0 5000; climb 0 1;", 0, 1, 0, 10000);
        said.due("need", desk.need(0), 60001);
        said.due("at(0, 60000, 0)", desk.at(0, 60000, 0), -1);
        said.due("at(0, 60001, 0)", desk.at(0, 60001, 0), -1);
        said.due("lastReturn(0, 60001)", desk.lastReturn(0, 60001), -1);
    }

    private void asOneComesThere() {
        // LEVEL 1, then LEVEL 2 with a CLIMB of 30 behind POINT 1.
        FlightDesk desk = flown("leg 0 1 400 at 1 1; leg 1 2 400 at 2 2; burn 1 0 60; burn 2 0 60; climb 0 5; climb 1 10; "
            + "climb 2 30;", 0, 2, 0, 100);
        said.due("need", desk.need(0), 265);
        int[] want = {265, 190, 100};
        for (int k = 0; k < 3; k++) {
            said.due("at(0, 265, " + k + ")", desk.at(0, 265, k), want[k]);
            said.due("at(0, 300, " + k + ")", desk.at(0, 300, k), want[k] + 35);
        }
    }

    private void climbsTakenOff() {
        FlightDesk desk = flown("leg 0 1 400 at 0 0; burn 0 0 60; burn 0 1 120; climb 0 500;", 0, 1, 0, 0);
        said.due("at NEED", desk.at(0, 560, 1), 0);
        said.due("at(0, 1559, 1)", desk.at(0, 1559, 1), 999);
        said.due("at(0, 1619, 1)", desk.at(0, 1619, 1), 999);
        said.due("at(0, 1620, 1)", desk.at(0, 1620, 1), 1000);
        // Down nothing is taken off.
        desk = flown("leg 0 1 400 at 1 1; leg 1 2 400 at 0 0; burn 0 0 60; burn 1 0 60; climb 0 5; climb 1 10;", 0, 2, 0, 0);
        said.due("down", desk.at(0, 135, 1), 60);
        said.due("down, the end", desk.at(0, 135, 2), 0);
    }

    private void greatestAmount() {
        FlightDesk desk = flown(banded(""), 0, 1, 0, 0);
        int[][] rows = {
            // on the ground, left
            {60, 0}, {61, 1}, {1059, 999}, {1060, 999}, {1119, 999}, {1120, 1000}, {1121, 1001}, {2119, 1999}, {2179, 1999},
            {2180, 2000}, {3179, 2999}, {3239, 2999}, {3240, 3000}, {4239, 3999}, {4299, 3999}, {4300, 4000}, {4301, 4001},
            {5300, 5000}, {60000, 59700},
        };
        for (int[] row : rows) {
            said.due("at(0, " + row[0] + ", 1)", desk.at(0, row[0], 1), row[1]);
        }
        // The WEIGHT without fuel is in BAND 1 already.
        desk = flown(banded("dry 500;"), 0, 1, 600, 0);
        int[][] heavy = {{120, 0}, {1019, 899}, {1079, 899}, {1080, 900}, {2079, 1899}, {2139, 1899}, {2140, 1900}};
        for (int[] row : heavy) {
            said.due("at(0, " + row[0] + ", 1), heavy", desk.at(0, row[0], 1), row[1]);
        }
        // It is in BAND 4, and far above.
        desk = flown(banded("dry 60000;"), 0, 1, 30000, 0);
        said.due("at(0, 300, 1), in BAND 4", desk.at(0, 300, 1), 0);
        said.due("at(0, 60000, 1), in BAND 4", desk.at(0, 60000, 1), 59700);
        overWholeBands();
    }

    /** Where a LEG takes more than a BAND is wide, what is left falls by several BANDS at once. */
    private void overWholeBands() {
        FlightDesk desk = flown("leg 0 1 400 at 0 0; burn 0 0 60; burn 0 1 5000; burn 0 4 9999;", 0, 1, 0, 0);
        int[][] rows = {{1059, 999}, {1060, 999}, {5999, 999}, {6000, 1000}, {8999, 3999}, {9000, 3999}, {13998, 3999},
            {13999, 4000}, {14000, 4001}};
        for (int[] row : rows) {
            said.due("at(0, " + row[0] + ", 1), steep", desk.at(0, row[0], 1), row[1]);
        }
        desk = flown("leg 0 1 400 at 0 0; leg 1 2 400 at 0 0; burn 0 0 60; burn 0 1 5000; burn 0 4 9999;", 0, 2, 0, 0);
        said.due("at(0, 6060, 1), two LEGS", desk.at(0, 6060, 1), 1060);
        said.due("at(0, 6060, 2), two LEGS", desk.at(0, 6060, 2), 999);
        said.due("at(0, 120, 2), two LEGS", desk.at(0, 120, 2), 0);
    }

    // ---- returns

    private void leastFuel() {
        FlightDesk desk = flown("leg 0 1 400 at 0 0; leg 1 0 400 at 0 0; leg 1 0 393 at 0 0; leg 1 2 100 at 0 0; leg 2 0 200 at 0 0; "
            + "burn 0 0 60;", 0, 1, 0, 10);
        said.due("by two LEGS", desk.home(0, 1), 10 + 30 + 15);
        desk = flown("leg 0 1 400 at 0 0; leg 1 0 400 at 0 0; leg 1 0 393 at 0 0; leg 1 2 200 at 0 0; leg 2 0 200 at 0 0; "
            + "burn 0 0 60;", 0, 1, 0, 10);
        said.due("by the lesser one", desk.home(0, 1), 10 + 59);
    }

    private void levelOnWhichOneComes() {
        // One comes to POINT 1 on LEVEL 2: LEVEL 3 is 8 above it, LEVEL 1 nothing below.
        String legs = "leg 0 1 400 at 2 2; burn 1 0 66; burn 2 0 60; burn 3 0 57; climb 0 1; climb 1 2; climb 2 4; climb 3 8; ";
        said.due("on the same", flown(legs + "leg 1 0 400 at 2 2;", 0, 1, 0, 0).home(0, 1), 60);
        said.due("below", flown(legs + "leg 1 0 400 at 1 1;", 0, 1, 0, 0).home(0, 1), 66);
        said.due("above", flown(legs + "leg 1 0 400 at 3 3;", 0, 1, 0, 0).home(0, 1), 65);
        said.due("the least of them", flown(legs + "leg 1 0 400 at 1 3;", 0, 1, 0, 0).home(0, 1), 60);
        said.due("the least of two", flown(legs + "leg 1 0 400 at 1 1; leg 1 0 400 at 3 3;", 0, 1, 0, 0).home(0, 1), 65);
    }

    private void backByAWay() {
        FlightDesk desk = flown("leg 0 1 400 at 0 0; leg 1 2 400 at 0 0; leg 2 0 100 at 0 0; burn 0 0 60;", 0, 2, 0, 7);
        said.due("of the first", desk.home(0, 0), 0);
        said.due("of POINT 1, onward and round", desk.home(0, 1), 7 + 15 + 60);
        said.due("of POINT 2", desk.home(0, 2), 7 + 15);
        desk = flown("leg 0 1 400 at 0 0; burn 0 0 60;", 0, 1, 0, 7);
        said.due("no WAY back", desk.home(0, 1), -1);
        said.due("of the first without one", desk.home(0, 0), 0);
        // By another WORLD one could, on another DAY, too.
        String text = "leg 0 1 400 at 0 0; leg 1 0 400 at 0 0 from 5 5; burn 0 0 60; wind 1 0 1 -351; wind 2 0 1 -350;";
        desk = Check.desk(text);
        desk.flight(0, 1, 5, 0, 0);
        said.due("in WORLD 0", desk.home(0, 1), 60);
        said.due("in WORLD 1", desk.home(1, 1), -1);
        said.due("in WORLD 2", desk.home(2, 1), 480);
        desk.flight(0, 1, 6, 0, 0);
        said.due("a DAY later", desk.home(0, 1), -1);
        // RESERVE and the BANDS count as they do for NEED.
        desk = flown(banded("leg 1 0 400 at 0 0;"), 0, 1, 0, 999);
        said.due("RESERVE 999", desk.home(0, 1), 1059);
        desk.flight(0, 1, 0, 0, 1000);
        said.due("RESERVE 1000", desk.home(0, 1), 1120);
        desk.flight(0, 1, 0, 1000, 0);
        said.due("RESERVE 0, PAYLOAD 1000", desk.home(0, 1), 120);
        // RETURN has no upper end.
        desk = flown("leg 0 1 1 at 0 0; leg 1 0 999 at 0 0; speed 0 100; burn 0 0 9999;", 0, 1, 0, 0);
        said.due("above all tanks", desk.home(0, 1), 99990);
    }

    private void climbsFromThatLevel() {
        // On LEVEL 1 to POINT 1, on LEVEL 3 back: 4 and 8 are climbed, not 1 and 2.
        FlightDesk desk = flown("leg 0 1 400 at 1 1; leg 1 0 400 at 3 3; burn 1 0 60; burn 3 0 60; climb 0 1; climb 1 2; "
            + "climb 2 4; climb 3 8;", 0, 1, 0, 0);
        said.due("up", desk.home(0, 1), 60 + 12);
        desk = flown("leg 0 1 400 at 0 0; leg 1 0 400 at 0 0; burn 0 0 60; climb 0 100;", 0, 1, 0, 0);
        said.due("not from the ground", desk.home(0, 1), 60);
        desk = flown("leg 0 1 400 at 5 5; leg 1 2 400 at 0 0; leg 2 0 400 at 1 1; burn 0 0 60; burn 1 0 60; burn 5 0 60; "
            + "climb 0 1; climb 1 2; climb 2 4; climb 3 8; climb 4 16; climb 5 32;", 0, 1, 0, 0);
        said.due("down, then up", desk.home(0, 1), 60 + 2 + 60);
    }

    /** There and back by two LEGS of 60 each way; RETURN of POINT 1 is 110, of POINT 2 170. */
    private static FlightDesk thereAndBack() {
        return flown("leg 0 1 400 at 0 0; leg 1 2 400 at 0 0; leg 1 0 400 at 0 0; leg 2 1 400 at 0 0; burn 0 0 60;", 0, 2, 0, 50);
    }

    private void lastPoint() {
        FlightDesk desk = thereAndBack();
        said.due("the last", desk.lastReturn(0, 60000), 2);
        said.due("the first", flown("leg 0 1 400;", 0, 1, 0, 0).lastReturn(0, 60000), 0);
        // By number along it, not the POINT's own.
        desk = flown("leg 7 4 400 at 0 0; leg 4 9 400 at 0 0; leg 4 7 400 at 0 0; leg 9 4 400 at 0 0; burn 0 0 60;", 7, 9, 0, 50);
        said.due("POINT 4 is 1", desk.lastReturn(0, 289), 1);
        said.due("POINT 9 is 2", desk.lastReturn(0, 290), 2);
    }

    private void returnOrMore() {
        FlightDesk desk = thereAndBack();
        said.due("NEED", desk.need(0), 170);
        said.due("RETURN of POINT 1", desk.home(0, 1), 110);
        said.due("just at POINT 1", desk.lastReturn(0, 170), 1);
        said.due("less by one at POINT 2", desk.lastReturn(0, 289), 1);
        said.due("just at POINT 2", desk.lastReturn(0, 290), 2);
        // POINT 1 needs 61 to return, one more than NEED leaves there.
        desk = flown("leg 0 1 400 at 0 0; leg 1 2 400 at 0 0; leg 1 0 401 at 0 0; burn 0 0 60;", 0, 2, 0, 0);
        said.due("less by one at POINT 1", desk.lastReturn(0, 120), 0);
        said.due("just at POINT 1", desk.lastReturn(0, 121), 1);
        said.due("no RETURN of POINT 2", desk.lastReturn(0, 60000), 1);
    }

    /** Who can return from a POINT can do so from those ahead of it by way of it, so they get theirs together. */
    private void allAheadToo() {
        // RETURN of POINT 1 is 160 (onward and round), of POINT 2 100; NEED leaves 145 and 85.
        FlightDesk desk = flown("leg 0 1 400 at 0 0; leg 1 2 400 at 0 0; leg 2 0 100 at 0 0; burn 0 0 60;", 0, 2, 0, 85);
        said.due("RETURN of POINT 1", desk.home(0, 1), 160);
        said.due("RETURN of POINT 2", desk.home(0, 2), 100);
        said.due("less by one at both", desk.lastReturn(0, 219), 0);
        said.due("just at both", desk.lastReturn(0, 220), 2);
        // RETURN of POINT 2 is far less than of POINT 1, and NEED is above it at POINT 1 alone.
        desk = flown("leg 0 1 400 at 0 0; leg 1 2 400 at 1 1; leg 1 0 400 at 2 2; leg 2 0 40 at 1 1; "
            + "burn 0 0 60; burn 1 0 6; burn 2 0 60; climb 1 100; climb 2 1;", 0, 2, 0, 0);
        said.due("NEED", desk.need(0), 166);
        said.due("RETURN of POINT 1", desk.home(0, 1), 107);
        said.due("RETURN of POINT 2", desk.home(0, 2), 1);
        said.due("NEED leaves 106 and 0", desk.lastReturn(0, 166), 0);
        said.due("107 and 1", desk.lastReturn(0, 167), 2);
        // By a BAND: from 1000 on LEG 0 takes 600, so much on the ground leaves 999 at POINT 1.
        desk = flown("leg 0 1 400 at 0 0; leg 1 2 400 at 0 1; leg 2 0 400 at 0 0; burn 0 0 60; burn 0 1 600; burn 1 0 60;",
            0, 2, 0, 939);
        said.due("NEED", desk.need(0), 939 + 60 + 60);
        said.due("RETURN of POINT 2", desk.home(0, 2), 999);
        said.due("RETURN of POINT 1", desk.home(0, 1), 1059);
        said.due("at NEED", desk.lastReturn(0, 1059), 0);
        said.due("1058 at POINT 1", desk.at(0, 1658, 1), 1058);
        said.due("less by one", desk.lastReturn(0, 1658), 0);
        said.due("1059 at POINT 1", desk.lastReturn(0, 1659), 2);
        // Three POINTS: the middle one has no LEG back of its own.
        desk = flown("leg 0 1 400 at 0 0; leg 1 2 400 at 0 0; leg 2 3 400 at 0 0; leg 1 0 400 at 0 0; leg 2 0 999 at 0 0; "
            + "leg 3 0 999 at 0 0; burn 0 0 60;", 0, 3, 0, 0);
        said.due("POINT 1 alone", desk.lastReturn(0, 269), 1);
        said.due("POINT 2, too", desk.lastReturn(0, 270), 2);
        said.due("POINT 3 not yet", desk.lastReturn(0, 329), 2);
        said.due("POINT 3, too", desk.lastReturn(0, 330), 3);
    }

    // ---- carried on

    private void carriedUpTo500() {
        FlightDesk desk = flown("leg 0 1 400 at 0 0; burn 0 0 60;", 0, 1, 0, 0);
        said.due("500 at most", desk.carry(0, 1, 2), 500);
        said.due("0 at least", desk.carry(0, 2, 1), 0);
        said.due("500 for nothing", desk.carry(0, 0, 1000), 500);
    }

    private void carriedOnBest() {
        // With more at its end LEG 1 would be better, but LEG 0 is BEST and stays it.
        FlightDesk desk = flown("leg 0 1 400 at 0 0; leg 0 1 400 at 1 1; burn 0 0 60; burn 0 1 600; burn 1 0 61;", 0, 1, 0, 900);
        said.due("BEST", desk.leg(0, 0, 0), 0);
        said.due("below the BAND", desk.carry(0, 1, 2), 99);
        desk.flight(0, 1, 0, 0, 1000);
        said.due("BEST", desk.leg(0, 0, 0), 1);
        said.due("on LEG 1", desk.carry(0, 1, 2), 500);
        // Beside RESERVE: with RESERVE 700 the BAND begins at 300.
        desk = flown("leg 0 1 400 at 0 0; burn 0 0 60; burn 0 1 1200;", 0, 1, 0, 700);
        said.due("beside RESERVE", desk.carry(0, 1, 2), 299);
    }

    private void cost() {
        // From 300 on 60 more are burnt: 299 saves 299 d, 500 saves 500 d less 60 here (d: there less here).
        FlightDesk desk = flown("leg 0 1 400 at 0 0; burn 0 0 60; burn 0 1 120;", 0, 1, 0, 700);
        said.due("500 d - 60 here above 299 d", desk.carry(0, 200, 260), 500);
        said.due("500 d - 60 here like 299 d", desk.carry(0, 201, 261), 299);
        said.due("500 d - 60 here below 299 d", desk.carry(0, 202, 262), 299);
        // All fuel on the ground: carried through two LEGS it is burnt twice.
        desk = flown("leg 0 1 400 at 0 0; leg 1 2 400 at 0 0; burn 0 0 60; burn 0 1 120;", 0, 2, 0, 640);
        said.due("two LEGS, below the first BAND", desk.carry(0, 300, 301), 299);
        said.due("two LEGS, below the second BAND", desk.carry(0, 3, 4), 299);
        said.due("two LEGS, above both", desk.carry(0, 1, 4), 500);
        said.due("the greatest PRICES", desk.carry(0, 1000, 1000), 0);
        said.due("the greatest PRICE there", desk.carry(0, 999, 1000), 299);
    }

    private void carriedLegally() {
        String leg = "leg 0 1 400 at 0 0; burn 0 0 100;";
        said.due("TANK", flown(leg + "tank 450;", 0, 1, 50, 200).carry(0, 1, 2), 150);
        said.due("MOST", flown(leg + "most 450;", 0, 1, 50, 200).carry(0, 1, 2), 100);
        said.due("LAND", flown(leg + "land 450;", 0, 1, 50, 200).carry(0, 1, 2), 200);
        said.due("MOST with DRY", flown(leg + "most 450; dry 30;", 0, 1, 50, 200).carry(0, 1, 2), 70);
        said.due("LAND with DRY", flown(leg + "land 450; dry 30;", 0, 1, 50, 200).carry(0, 1, 2), 170);
        said.due("TANK full by NEED", flown(leg + "tank 300;", 0, 1, 50, 200).carry(0, 1, 2), 0);
        said.due("MOST full by NEED", flown(leg + "most 350;", 0, 1, 50, 200).carry(0, 1, 2), 0);
        said.due("LAND full by RESERVE", flown(leg + "land 250;", 0, 1, 50, 200).carry(0, 1, 2), 0);
        said.due("TANK broken", flown(leg + "tank 299;", 0, 1, 50, 200).carry(0, 1, 2), -1);
        said.due("MOST broken", flown(leg + "most 349;", 0, 1, 50, 200).carry(0, 1, 2), -1);
        said.due("LAND broken", flown(leg + "land 249;", 0, 1, 50, 200).carry(0, 1, 2), -1);
        said.due("500 just fit", flown(leg + "tank 800;", 0, 1, 50, 200).carry(0, 1, 2), 500);
        said.due("499 just fit", flown(leg + "tank 799;", 0, 1, 50, 200).carry(0, 1, 2), 499);
        said.due("dear here", flown(leg + "tank 450;", 0, 1, 50, 200).carry(0, 2, 1), 0);
        // The fuel burnt for what is carried counts, too: from 800 on 100 more.
        String banded = "leg 0 1 400 at 0 0; burn 0 0 100; burn 0 1 200;";
        said.due("TANK with more burnt", flown(banded + "tank 1200;", 0, 1, 0, 800).carry(0, 0, 2), 200);
        said.due("TANK with more burnt, less by one", flown(banded + "tank 1199;", 0, 1, 0, 800).carry(0, 0, 2), 199);
    }

    private void leastCost() {
        FlightDesk desk = flown("leg 0 1 400 at 0 0; burn 0 0 60; burn 0 1 120;", 0, 1, 0, 700);
        said.due("like PRICES", desk.carry(0, 10, 10), 0);
        said.due("no PRICES", desk.carry(0, 0, 0), 0);
        said.due("dear there", desk.carry(0, 0, 1), 500);
        said.due("dear here", desk.carry(0, 1, 0), 0);
        said.due("299 and 500 are like", desk.carry(0, 201, 261), 299);
    }

    private void none() {
        said.due("NONE", FlightDesk.NONE, -1);
        said.due("there is none", new FlightDesk().need(0), FlightDesk.NONE);
    }
}
