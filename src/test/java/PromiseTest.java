/** Promises 1 to 20, one method each: ordinary inputs, edges and wrong inputs, reckoned by hand. */
public final class PromiseTest {
    private static final Check CHECK = new Check();
    private static final int BLANKS = 0x20202020;
    private static final int LOW = Integer.MIN_VALUE;
    private static final int HIGH = Integer.MAX_VALUE;

    private static void due(String call, long got, long want) {
        CHECK.due(call, got, want);
    }

    private static void p1NewObject() {
        FlightDesk desk = new FlightDesk();
        for (int what = 0; what < 4; what++) {
            due("1: about(" + what + ")", desk.about(what), 0);
        }
        due("1: told(0)", desk.told(0, 5, 0, 0), 400);
        due("1: told(1)", desk.told(1, 0, 0, 0), -1000);
        due("1: told(2)", desk.told(2, 5, 4, 0), 1000);
        due("1: told(3)", desk.told(3, 0, 0, 0), 0);
        due("1: told(4)", desk.told(4, 0, 0, 0), 30000);
        due("1: told(5)", desk.told(5, 0, 0, 0), 60000);
        due("1: told(6)", desk.told(6, 0, 0, 0), 60000);
        due("1: told(7)", desk.told(7, 0, 0, 0), 0);
        due("1: flight", desk.flight(0, 9, 0, 0, 0) ? 1 : 0, 1);
        due("1: need", desk.need(0), -1);
        due("1: book", desk.book(), 0);
    }

    private static void p2Feed() {
        FlightDesk desk = new FlightDesk();
        for (int i = 1; i <= 49; i++) {
            due("2: feed", desk.feed(BLANKS, BLANKS, BLANKS, BLANKS, BLANKS), i * 20);
        }
        due("2: end(979)", desk.end(979), 979);
        due("2: feed to 999", desk.feed(BLANKS, BLANKS, BLANKS, BLANKS, BLANKS), 999);
        due("2: feed beyond", desk.feed(BLANKS, BLANKS, BLANKS, BLANKS, BLANKS), -1);
        due("2: about(3)", desk.about(3), 999);
        due("2: end(981)", desk.end(981), 981);
        due("2: feed to 1001", desk.feed(BLANKS, BLANKS, BLANKS, BLANKS, BLANKS), -1);
        due("2: end(980)", desk.end(980), 980);
        // "dry 12345;" behind blanks: the highest byte of each number comes first.
        due("2: feed to 1000", desk.feed(0x64727920, 0x31323334, 0x353b2020, BLANKS, BLANKS), 1000);
        due("2: book", desk.book(), 0);
        due("2: told(7)", desk.told(7, 0, 0, 0), 12345);
        due("2: feed to the emptied tape", desk.feed(-1, -1, -1, -1, -1), 20);
        due("2: a byte 255 is no token", desk.book(), -1);
        due("2: its fault", desk.fault(0), 1);
    }

    private static void p3End() {
        FlightDesk desk = new FlightDesk();
        due("3: end(0)", desk.end(0), 0);
        due("3: end(1)", desk.end(1), -1);
        Check.feed(desk, "dry 5; dry 6;");
        due("3: end(14)", desk.end(14), -1);
        due("3: end(-1)", desk.end(-1), -1);
        due("3: end(least)", desk.end(LOW), -1);
        due("3: end(greatest)", desk.end(HIGH), -1);
        due("3: about(3)", desk.about(3), 13);
        due("3: end(13)", desk.end(13), 13);
        due("3: end(6)", desk.end(6), 6);
        due("3: end(7)", desk.end(7), -1);
        due("3: book", desk.book(), 0);
        due("3: told(7)", desk.told(7, 0, 0, 0), 5);
    }

    private static void p4Book() {
        FlightDesk desk = Check.desk("leg 0 1 10; leg 1 2 10;");
        due("4: about(2)", desk.about(2), 0);
        desk.flight(0, 2, 0, 0, 0);
        due("4: need", desk.need(0), 34 + 34);
        Check.feed(desk, "leg 0 2 10");
        due("4: book with a FAULT", desk.book(), -1);
        due("4: FLIGHT stays", desk.about(2), 1);
        due("4: need stays", desk.need(0), 68);
        due("4: the TAPE stays", desk.about(3), 10);
        Check.feed(desk, ";");
        due("4: book", desk.book(), 1);
        due("4: FLIGHT is none", desk.about(2), 0);
        due("4: need is none", desk.need(0), -1);
        due("4: the TAPE is empty", desk.about(3), 0);
        due("4: one LEG", desk.about(0), 1);
        desk.flight(0, 2, 0, 0, 0);
        due("4: need anew", desk.need(0), 34);
        due("4: no LEG 1", desk.minutes(1, 0, 0), -1);
    }

    private static void p5Fault() {
        FlightDesk desk = new FlightDesk();
        due("5: fault(0)", desk.fault(0), 0);
        due("5: fault(1)", desk.fault(1), -1);
        Check.feed(desk, " tank 60001;");
        due("5: book", desk.book(), -1);
        due("5: fault(0)", desk.fault(0), 3);
        due("5: fault(1)", desk.fault(1), 6);
        due("5: fault(2)", desk.fault(2), -1);
        due("5: fault(-1)", desk.fault(-1), -1);
        due("5: fault(least)", desk.fault(LOW), -1);
        desk.end(0);
        due("5: book", desk.book(), 0);
        due("5: fault(0)", desk.fault(0), 0);
        due("5: fault(1)", desk.fault(1), -1);
    }

    private static void p6Flight() {
        FlightDesk desk = Check.desk("leg 0 9 60; burn 0 0 60; speed 0 100;");
        int[][] wrong = {
            {0, 0, 0, 0, 0}, {-1, 9, 0, 0, 0}, {10, 9, 0, 0, 0}, {0, -1, 0, 0, 0}, {0, 10, 0, 0, 0},
            {0, 9, -1, 0, 0}, {0, 9, 1000, 0, 0}, {0, 9, 0, -1, 0}, {0, 9, 0, 30001, 0},
            {0, 9, 0, 0, -1}, {0, 9, 0, 0, 10001}, {LOW, HIGH, LOW, HIGH, LOW},
        };
        for (int[] w : wrong) {
            due("6: flight", desk.flight(w[0], w[1], w[2], w[3], w[4]) ? 1 : 0, 0);
            due("6: about(2)", desk.about(2), 0);
        }
        due("6: flight", desk.flight(0, 9, 999, 30000, 10000) ? 1 : 0, 1);
        due("6: about(2)", desk.about(2), 1);
        due("6: need", desk.need(0), 10036);
        for (int[] w : wrong) {
            due("6: flight", desk.flight(w[0], w[1], w[2], w[3], w[4]) ? 1 : 0, 0);
            due("6: need stays", desk.need(0), 10036);
        }
        due("6: flight", desk.flight(0, 9, 0, 0, 0) ? 1 : 0, 1);
        due("6: need", desk.need(0), 36);
        due("6: flight", desk.flight(9, 0, 0, 0, 0) ? 1 : 0, 1);
        due("6: need", desk.need(0), -1);
    }

    private static void p7Told() {
        FlightDesk desk = Check.desk("leg 0 1 5; leg 1 0 5; speed 2 500; wind 1 1 1 -30; wind 1 4 1 40; "
            + "burn 3 1 100; burn 3 3 300; climb 2 50; tank 1; most 2; land 3; dry 4;");
        due("7: speed", desk.told(0, 2, 9, 9), 500);
        due("7: speed untold", desk.told(0, 3, 0, 0), 400);
        int[] wind = {0, -30, -30, -30, 40, 40};
        for (int level = 0; level < 6; level++) {
            due("7: wind", desk.told(1, 1, level, 1), wind[level]);
            due("7: wind of another LEG", desk.told(1, 1, level, 0), 0);
            due("7: wind of another WORLD", desk.told(1, 2, level, 1), 0);
        }
        int[] burn = {100, 100, 100, 300, 300};
        for (int band = 0; band < 5; band++) {
            due("7: burn", desk.told(2, 3, band, 0), burn[band]);
            due("7: burn untold", desk.told(2, 4, band, 0), 1000);
        }
        due("7: climb", desk.told(3, 2, 0, 0), 50);
        due("7: climb untold", desk.told(3, 3, 0, 0), 0);
        for (int what = 4; what < 8; what++) {
            due("7: limit", desk.told(what, -5, HIGH, LOW), what - 3);
        }
        int[][] none = {
            {0, -1, 0, 0}, {0, 6, 0, 0}, {1, -1, 0, 0}, {1, 3, 0, 0}, {1, 0, -1, 0}, {1, 0, 6, 0}, {1, 0, 0, -1},
            {1, 0, 0, 2}, {2, -1, 0, 0}, {2, 6, 0, 0}, {2, 0, -1, 0}, {2, 0, 5, 0}, {3, -1, 0, 0}, {3, 6, 0, 0},
            {-1, 0, 0, 0}, {8, 0, 0, 0}, {LOW, LOW, LOW, LOW}, {1, HIGH, HIGH, HIGH}, {2, HIGH, HIGH, 0},
        };
        for (int[] n : none) {
            due("7: none such", desk.told(n[0], n[1], n[2], n[3]), -1000);
        }
    }

    private static void p8Minutes() {
        FlightDesk desk = Check.desk("leg 0 1 100 at 1 2 from 10 20; leg 0 1 1; speed 1 100; speed 2 101; "
            + "wind 0 1 0 -50; wind 1 1 0 -51; wind 2 2 0 100;");
        due("8: no FLIGHT", desk.minutes(0, 1, 0), -1);
        desk.flight(0, 1, 10, 0, 0);
        due("8: pace 50", desk.minutes(0, 1, 0), 120);
        due("8: pace 49", desk.minutes(0, 1, 1), -1);
        due("8: pace 100", desk.minutes(0, 1, 2), 60);
        due("8: pace 51, led on", desk.minutes(0, 2, 0), 118);
        due("8: pace 50, led on", desk.minutes(0, 2, 1), 120);
        due("8: pace 201", desk.minutes(0, 2, 2), 30);
        due("8: LEVEL below its own", desk.minutes(0, 0, 0), -1);
        due("8: LEVEL above its own", desk.minutes(0, 3, 0), -1);
        due("8: one mile", desk.minutes(1, 0, 0), 1);
        int[][] none = {{-1, 1, 0}, {2, 1, 0}, {16, 1, 0}, {0, -1, 0}, {0, 6, 0}, {0, 1, -1}, {0, 1, 3}, {LOW, HIGH, LOW}};
        for (int[] n : none) {
            due("8: no such", desk.minutes(n[0], n[1], n[2]), -1);
        }
        int[] days = {9, 10, 20, 21};
        for (int day : days) {
            desk.flight(0, 1, day, 0, 0);
            due("8: DAY " + day, desk.minutes(0, 1, 0), day < 10 || day > 20 ? -1 : 120);
            due("8: DAY " + day + " of another LEG", desk.minutes(1, 1, 0), 1);
        }
    }

    private static void p9Fuel() {
        FlightDesk desk = Check.desk("leg 0 1 60 at 0 0; speed 0 600; dry 500; "
            + "burn 0 0 100; burn 0 1 205; burn 0 2 300; burn 0 3 400; burn 0 4 9999;");
        due("9: no FLIGHT", desk.fuel(0, 0, 0, 0), -1);
        desk.flight(0, 1, 0, 300, 0);
        due("9: band 0", desk.fuel(0, 0, 0, 199), 10);
        due("9: band 1, rounded up", desk.fuel(0, 0, 0, 200), 21);
        due("9: band 1", desk.fuel(0, 0, 0, 1199), 21);
        due("9: band 1, rounded up", desk.fuel(0, 0, 0, 200), (6 * 205 + 59) / 60);
        due("9: band 2", desk.fuel(0, 0, 0, 1200), 30);
        due("9: band 3", desk.fuel(0, 0, 0, 2200), 40);
        due("9: band 4", desk.fuel(0, 0, 0, 3200), 1000);
        due("9: band 4 above", desk.fuel(0, 0, 0, 60000), 1000);
        due("9: left too great", desk.fuel(0, 0, 0, 60001), -1);
        due("9: left below 0", desk.fuel(0, 0, 0, -1), -1);
        due("9: left least", desk.fuel(0, 0, 0, LOW), -1);
        due("9: left greatest", desk.fuel(0, 0, 0, HIGH), -1);
        due("9: LEVEL not its own", desk.fuel(0, 1, 0, 0), -1);
        due("9: no such LEG", desk.fuel(1, 0, 0, 0), -1);
        due("9: no such WORLD", desk.fuel(0, 0, 3, 0), -1);
    }

    /** Two LEGS of an hour each; above it burns less, but one must climb there. */
    private static FlightDesk twoLegs() {
        FlightDesk desk = Check.desk("leg 0 1 400 at 0 1; leg 1 2 400 at 0 1; leg 2 0 400 at 1 1; "
            + "burn 0 0 200; burn 0 1 300; burn 1 0 100; burn 1 1 150; climb 0 10; climb 1 120; wind 1 1 0 -200;");
        desk.flight(0, 2, 0, 0, 850);
        return desk;
    }

    private static void p10Need() {
        FlightDesk desk = new FlightDesk();
        due("10: no FLIGHT", desk.need(0), -1);
        desk = twoLegs();
        // Back from 850: 100 (band 0) on LEVEL 1, 950; 100 again, 1050; the climbs 130.
        due("10: need(0)", desk.need(0), 1180);
        // In WORLD 1 LEG 0 on LEVEL 1 takes two hours: 950 + 200 + 130, or LEVEL 0: 950 + 120, 1070 + 300 + 10.
        due("10: need(1)", desk.need(1), 1280);
        due("10: need(2)", desk.need(2), 1180);
        due("10: need(3)", desk.need(3), -1);
        due("10: need(-1)", desk.need(-1), -1);
        due("10: need(least)", desk.need(LOW), -1);
        desk.flight(0, 2, 0, 0, 900);
        // Band 1 at the end of LEG 0, as 900 + 100 is left there.
        due("10: need(0) in band 1", desk.need(0), 900 + 100 + 150 + 130);
        desk.flight(0, 3, 0, 0, 0);
        due("10: no WAY", desk.need(0), -1);
        StringBuilder chain = new StringBuilder("leg 8 9 400;leg 7 8 400;leg 6 7 400;leg 5 6 400;leg 4 5 400;leg 3 4 400;");
        chain.append("leg 2 3 400;leg 1 2 400;leg 0 9 999;leg 9 0 999;leg 0 9 999;leg 0 9 999;leg 0 9 999;leg 1 0 1;");
        chain.append("leg 2 0 1;leg 0 1 400;speed 0 100;wind 2 0 15 -50;");
        for (int level = 0; level < 6; level++) {
            chain.append("burn ").append(level).append(" 0 60;");
        }
        chain.append("wind 0 1 8 -350;wind 0 1 10 -350;wind 0 1 11 -350;wind 0 1 12 -350;");
        desk = Check.desk(chain.toString());
        desk.flight(0, 9, 0, 0, 0);
        due("10: through all POINTS", desk.need(0), 9 * 60);
        due("10: nine LEGS", desk.legs(0), 9);
        due("10: the sixteenth LEG", desk.leg(0, 0, 0), 15);
        due("10: the last LEG", desk.leg(0, 8, 0), 0);
        due("10: straight", desk.need(1), 150);
        due("10: the first straight LEG", desk.leg(1, 0, 0), 8);
        desk = Check.desk("leg 0 1 999; leg 1 2 999; speed 0 100; wind 0 0 0 -50; burn 0 0 9999; burn 1 0 9999; "
            + "burn 2 0 9999; burn 3 0 9999; burn 4 0 9999; burn 5 0 9999; wind 0 0 1 -50; wind 0 1 0 -350; wind 0 1 1 -350;");
        desk.flight(0, 2, 0, 30000, 10000);
        due("10: above all tanks", desk.need(0), 10000 + 2 * ((1199 * 9999 + 59) / 60));
    }

    private static void p11Legs() {
        FlightDesk desk = twoLegs();
        due("11: legs(0)", desk.legs(0), 2);
        due("11: legs(3)", desk.legs(3), -1);
        due("11: legs(-1)", desk.legs(-1), -1);
        desk.flight(2, 0, 0, 0, 0);
        due("11: legs(0)", desk.legs(0), 1);
        desk.flight(3, 0, 0, 0, 0);
        due("11: no WAY", desk.legs(0), -1);
        due("11: no FLIGHT", new FlightDesk().legs(0), -1);
    }

    private static void p12Leg() {
        FlightDesk desk = twoLegs();
        int[][] want = {{0, 1, 60, 100}, {1, 1, 60, 100}};
        for (int k = 0; k < 2; k++) {
            for (int what = 0; what < 4; what++) {
                due("12: leg(0, " + k + ", " + what + ")", desk.leg(0, k, what), want[k][what]);
            }
        }
        due("12: minutes in WORLD 1", desk.leg(1, 0, 2), 120);
        due("12: fuel in WORLD 1", desk.leg(1, 0, 3), 200);
        int[][] none = {{0, 2, 0}, {0, -1, 0}, {0, 0, 4}, {0, 0, -1}, {3, 0, 0}, {-1, 0, 0}, {0, HIGH, LOW}};
        for (int[] n : none) {
            due("12: none such", desk.leg(n[0], n[1], n[2]), -1);
        }
        due("12: no FLIGHT", new FlightDesk().leg(0, 0, 0), -1);
        // Of like ways the least LEG goes ahead, then the least LEVEL, then the next LEG.
        desk = Check.desk("leg 1 2 400; leg 0 2 800; leg 0 1 400; leg 1 2 400;");
        desk.flight(0, 2, 0, 0, 0);
        due("12: the least LEG", desk.leg(0, 0, 0), 1);
        due("12: the least LEVEL", desk.leg(0, 0, 1), 0);
        desk = Check.desk("leg 1 2 400; leg 0 1 400; leg 0 2 800; leg 1 2 400;");
        desk.flight(0, 2, 0, 0, 0);
        due("12: the least LEG", desk.leg(0, 0, 0), 1);
        due("12: the least next LEG", desk.leg(0, 1, 0), 0);
        due("12: all on LEVEL 0", desk.leg(0, 1, 1), 0);
    }

    private static void p13Time() {
        FlightDesk desk = twoLegs();
        due("13: time(0)", desk.time(0), 120);
        due("13: time(1)", desk.time(1), 180);
        due("13: time(3)", desk.time(3), -1);
        due("13: time(-1)", desk.time(-1), -1);
        desk.flight(0, 9, 0, 0, 0);
        due("13: no WAY", desk.time(0), -1);
        due("13: no FLIGHT", new FlightDesk().time(0), -1);
    }

    /** A LEG that takes 100, with limits told behind it. */
    private static FlightDesk hundred(String limits) {
        return Check.desk("leg 0 1 400 at 0 0; burn 0 0 100; " + limits);
    }

    private static int legal(String limits, int payload, int reserve) {
        FlightDesk desk = hundred(limits);
        desk.flight(0, 1, 0, payload, reserve);
        return desk.legal(0);
    }

    private static void p14Legal() {
        due("14: TANK full", legal("tank 300;", 0, 200), 0);
        due("14: above TANK", legal("tank 300;", 0, 201), 1);
        due("14: MOST full", legal("most 400; dry 60;", 40, 200), 0);
        due("14: above MOST", legal("most 400; dry 60;", 41, 200), 2);
        due("14: LAND full", legal("land 300; dry 60;", 40, 200), 0);
        due("14: above LAND", legal("land 300; dry 60;", 40, 201), 3);
        due("14: all broken", legal("tank 1; most 1; land 1;", 0, 2), 1);
        due("14: two broken", legal("most 1; land 1;", 0, 2), 2);
        due("14: if not told", legal("", 30000, 10000), 0);
        due("14: if not told, heavy", legal("dry 20000;", 30000, 10000), 2);
        FlightDesk desk = hundred("");
        due("14: no FLIGHT", desk.legal(0), -1);
        desk.flight(1, 0, 0, 0, 0);
        due("14: no WAY", desk.legal(0), -1);
        desk.flight(0, 1, 0, 0, 0);
        due("14: no WORLD", desk.legal(3), -1);
    }

    private static void p15Borne() {
        FlightDesk desk = Check.desk("leg 0 1 400 at 0 0; leg 0 1 480 at 0 0; leg 0 1 440 at 0 0; burn 0 0 60; "
            + "wind 0 0 1 -10; wind 1 0 0 -350; wind 2 0 1 -300; wind 2 0 2 40;");
        due("15: no FLIGHT", desk.borne(1), -1);
        desk.flight(0, 1, 0, 0, 0);
        // By WORLD: LEG 0 takes 60, 480, 60; LEG 1 74, 72, 288; LEG 2 66, 66, 60.
        due("15: need(0)", desk.need(0), 60);
        due("15: need(1)", desk.need(1), 66);
        due("15: need(2)", desk.need(2), 60);
        due("15: borne(1)", desk.borne(1), 60);
        due("15: borne(2)", desk.borne(2), 66);
        due("15: borne(3)", desk.borne(3), 66);
        due("15: borne(0)", desk.borne(0), -1);
        due("15: borne(4)", desk.borne(4), -1);
        due("15: borne(least)", desk.borne(LOW), -1);
        // Just BESTS are asked: LEG 2 would be borne by 70, but is BEST nowhere.
        desk = Check.desk("leg 0 1 400 at 0 0; leg 0 1 400 at 0 0; leg 0 1 400 at 0 0; burn 0 0 60; "
            + "wind 0 0 1 -200; wind 1 0 0 -300; wind 0 0 2 -50; wind 1 0 2 -50;");
        desk.flight(0, 1, 0, 0, 0);
        due("15: just BESTS", desk.borne(2), 120);
        // LEG 0 can't be flown in WORLD 1, nor LEG 1 in WORLD 0.
        desk = Check.desk("leg 0 1 400 at 0 0; leg 0 1 400 at 0 0; wind 0 0 1 -351; wind 1 0 0 -351; wind 2 0 0 -351;");
        desk.flight(0, 1, 0, 0, 0);
        due("15: each has one", desk.need(1), 1000);
        due("15: none is borne", desk.borne(2), -1);
        due("15: one WORLD is", desk.borne(1), 1000);
        desk = Check.desk("leg 0 1 400 at 0 0; wind 1 0 0 -351;");
        desk.flight(0, 1, 0, 0, 0);
        due("15: a WORLD without a WAY", desk.borne(2), -1);
        due("15: a WORLD without a WAY", desk.borne(3), -1);
    }

    private static void p16At() {
        FlightDesk desk = twoLegs();
        int[] want = {1180, 950, 850};
        for (int k = 0; k < 3; k++) {
            due("16: at(0, 1180, " + k + ")", desk.at(0, 1180, k), want[k]);
        }
        // 1230 less the climbs is 1100: 999 takes 100, 1000 would take 150. 999 then leaves 899.
        due("16: below a BAND", desk.at(0, 1230, 1), 999);
        due("16: below a BAND, the next", desk.at(0, 1230, 2), 899);
        due("16: still below", desk.at(0, 1279, 1), 999);
        due("16: just above", desk.at(0, 1280, 1), 1000);
        due("16: just above, the next", desk.at(0, 1280, 2), 900);
        due("16: the greatest", desk.at(0, 60000, 2), 60000 - 130 - 150 - 150);
        int[][] none = {{0, 1179, 0}, {0, 60001, 0}, {0, 1180, 3}, {0, 1180, -1}, {3, 1180, 0}, {-1, 1180, 0},
            {0, LOW, 0}, {0, HIGH, 0}, {0, 1180, HIGH}};
        for (int[] n : none) {
            due("16: can't be asked", desk.at(n[0], n[1], n[2]), -1);
        }
        due("16: no FLIGHT", new FlightDesk().at(0, 100, 0), -1);
    }

    private static void p17Home() {
        FlightDesk desk = twoLegs();
        due("17: of the first", desk.home(0, 0), 0);
        // From POINT 2 on LEVEL 1 by LEG 2: 850 + 100; from POINT 1 by LEG 1 on LEVEL 1 ahead of it.
        due("17: home(0, 2)", desk.home(0, 2), 950);
        due("17: home(0, 1)", desk.home(0, 1), 1050);
        due("17: no POINT 3", desk.home(0, 3), -1);
        due("17: no POINT -1", desk.home(0, -1), -1);
        due("17: no WORLD", desk.home(3, 0), -1);
        due("17: no FLIGHT", new FlightDesk().home(0, 0), -1);
        desk = Check.desk("leg 0 1 400 at 1 1; leg 1 0 400 at 2 2; climb 0 10; climb 1 20; climb 2 30; burn 1 0 60; burn 2 0 60;");
        desk.flight(0, 1, 0, 0, 100);
        due("17: the CLIMBS from that LEVEL on", desk.home(0, 1), 100 + 60 + 30);
        desk = hundred("");
        desk.flight(0, 1, 0, 0, 0);
        due("17: one can't return", desk.home(0, 1), -1);
        due("17: of the first", desk.home(0, 0), 0);
        desk.flight(1, 0, 0, 0, 0);
        due("17: no WAY", desk.home(0, 0), -1);
    }

    private static void p18LastReturn() {
        FlightDesk desk = Check.desk("leg 0 1 400 at 0 0; leg 1 2 400 at 0 0; leg 1 0 400 at 0 0; leg 2 1 400 at 0 0; burn 0 0 100;");
        desk.flight(0, 2, 0, 0, 50);
        // RETURN of POINT 1 is 150, of POINT 2 250.
        due("18: just at POINT 1", desk.lastReturn(0, 250), 1);
        due("18: below POINT 2", desk.lastReturn(0, 449), 1);
        due("18: just at POINT 2", desk.lastReturn(0, 450), 2);
        due("18: the greatest", desk.lastReturn(0, 60000), 2);
        due("18: above it", desk.lastReturn(0, 60001), -1);
        due("18: below NEED", desk.lastReturn(0, 249), -1);
        due("18: no WORLD", desk.lastReturn(3, 250), -1);
        due("18: no FLIGHT", new FlightDesk().lastReturn(0, 0), -1);
        // One can return from POINT 2, not from POINT 1 ahead of it.
        desk = Check.desk("leg 0 1 400 at 0 0; leg 1 2 400 at 0 0; leg 2 0 100 at 0 0 ; burn 0 0 100;");
        desk.flight(0, 2, 0, 0, 100);
        due("18: home(0, 1)", desk.home(0, 1), 225);
        due("18: home(0, 2)", desk.home(0, 2), 125);
        due("18: 300 at the start", desk.lastReturn(0, 300), 0);
        due("18: of all ahead, too", desk.lastReturn(0, 324), 0);
        due("18: of all", desk.lastReturn(0, 325), 2);
        desk = hundred("");
        desk.flight(0, 1, 0, 0, 0);
        due("18: just the first", desk.lastReturn(0, 60000), 0);
    }

    private static void p19Carry() {
        FlightDesk desk = Check.desk("leg 0 1 400 at 0 0; burn 0 0 60; burn 0 1 120; tank 1000;");
        desk.flight(0, 1, 0, 0, 700);
        // Up to 240 the TANK holds it: then 940 and 60.
        due("19: dear there", desk.carry(0, 10, 11), 240);
        due("19: dear here", desk.carry(0, 11, 10), 0);
        due("19: like", desk.carry(0, 10, 10), 0);
        due("19: for nothing", desk.carry(0, 0, 0), 0);
        due("19: nothing here", desk.carry(0, 0, 1), 240);
        due("19: greatest prices", desk.carry(0, 999, 1000), 240);
        int[][] none = {{0, -1, 0}, {0, 1001, 0}, {0, 0, -1}, {0, 0, 1001}, {3, 1, 1}, {-1, 1, 1}, {0, LOW, HIGH}};
        for (int[] n : none) {
            due("19: can't be asked", desk.carry(n[0], n[1], n[2]), -1);
        }
        desk.flight(0, 1, 0, 0, 941);
        due("19: not LEGAL", desk.carry(0, 1, 2), -1);
        desk = Check.desk("leg 0 1 400 at 0 0; burn 0 0 60; burn 0 1 120;");
        desk.flight(0, 1, 0, 0, 700);
        // At 300 the burn goes up by 60: 299 by cost -299, 500 by 60 * 5 - 500 (prices 5 and 6).
        due("19: below a BAND", desk.carry(0, 5, 6), 299);
        due("19: like ones, the least", desk.carry(0, 201, 261), 299);
        due("19: above a BAND", desk.carry(0, 1, 6), 500);
        desk.flight(1, 0, 0, 0, 0);
        due("19: no WAY", desk.carry(0, 1, 1), -1);
        due("19: no FLIGHT", new FlightDesk().carry(0, 1, 1), -1);
        desk = hundred("land 400;");
        desk.flight(0, 1, 0, 50, 200);
        due("19: LAND", desk.carry(0, 1, 2), 150);
        desk = hundred("most 400;");
        desk.flight(0, 1, 0, 50, 200);
        due("19: MOST", desk.carry(0, 1, 2), 50);
    }

    private static void p20About() {
        FlightDesk desk = Check.desk("leg 0 1 400; dry 5; leg 1 0 5;");
        due("20: LEGS", desk.about(0), 2);
        due("20: lines", desk.about(1), 3);
        due("20: no FLIGHT", desk.about(2), 0);
        due("20: bytes", desk.about(3), 0);
        due("20: about(4)", desk.about(4), -1);
        due("20: about(-1)", desk.about(-1), -1);
        due("20: about(least)", desk.about(LOW), -1);
        desk.flight(0, 1, 0, 0, 0);
        Check.feed(desk, "abc");
        due("20: a FLIGHT", desk.about(2), 1);
        due("20: bytes", desk.about(3), 3);
    }

    public static void main(String[] args) {
        p1NewObject();
        p2Feed();
        p3End();
        p4Book();
        p5Fault();
        p6Flight();
        p7Told();
        p8Minutes();
        p9Fuel();
        p10Need();
        p11Legs();
        p12Leg();
        p13Time();
        p14Legal();
        p15Borne();
        p16At();
        p17Home();
        p18LastReturn();
        p19Carry();
        p20About();
        due("NONE", FlightDesk.NONE, -1);
        CHECK.close();
    }
}
