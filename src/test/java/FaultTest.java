/** Promises 4 and 5: what is no BOOK, which FAULT it has and at which place. */
public final class FaultTest {
    private static final Check CHECK = new Check();

    /** The text up to the mark | is fed with what is behind it; the FAULT is at the mark. */
    private static void refused(int fault, String marked) {
        int place = marked.indexOf('|');
        String text = marked.substring(0, place) + marked.substring(place + 1);
        FlightDesk desk = Check.desk("leg 0 1 10; dry 7;");
        desk.flight(0, 1, 0, 0, 0);
        Check.feed(desk, text);
        CHECK.due("book() of " + marked, desk.book(), -1);
        CHECK.due("fault(0) of " + marked, desk.fault(0), fault);
        CHECK.due("fault(1) of " + marked, desk.fault(1), place);
        CHECK.due("fault(2) of " + marked, desk.fault(2), -1);
        CHECK.due("about(0) of " + marked, desk.about(0), 1);
        CHECK.due("about(1) of " + marked, desk.about(1), 2);
        CHECK.due("about(2) of " + marked, desk.about(2), 1);
        CHECK.due("about(3) of " + marked, desk.about(3), text.length());
        CHECK.due("told(7) of " + marked, desk.told(7, 0, 0, 0), 7);
    }

    private static void taken(int legs, int lines, String text) {
        FlightDesk desk = new FlightDesk();
        Check.feed(desk, text);
        CHECK.due("book() of " + text, desk.book(), legs);
        CHECK.due("fault(0) of " + text, desk.fault(0), 0);
        CHECK.due("fault(1) of " + text, desk.fault(1), -1);
        CHECK.due("about(0) of " + text, desk.about(0), legs);
        CHECK.due("about(1) of " + text, desk.about(1), lines);
        CHECK.due("about(3) of " + text, desk.about(3), 0);
    }

    private static void tokens() {
        refused(1, "|\tdry 5;");
        refused(1, "|\r");
        refused(1, "|Dry 5;");
        refused(1, "|" + (char) 233);
        refused(1, "|" + (char) 0);
        refused(1, "dry |+5;");
        refused(1, "dry |-;");
        refused(1, "dry |- 5;");
        refused(1, "dry |--5;");
        refused(1, "dry |123456;");
        refused(1, "dry |000005;");
        refused(1, "dry |-000005;");
        refused(1, "dry |5x;");
        refused(1, "dry |-5x;");
        refused(1, "dry |70000x;");
        refused(1, "dry 5|,");
        refused(1, "|abcdefghi 5;");
        refused(1, "dry |abcdefghi;");
        refused(1, "leg 0 1 |5at 0 1;");
        refused(1, "leg 0 1 5 at 0 |1from 0 1;");
        refused(1, "|`");
        refused(1, "|{");
        refused(1, "dry |/;");
        refused(1, "dry |:;");
        refused(1, "dry 5|<");
        refused(1, "dry |5z;");
        refused(1, "dry |5a;");
        refused(2, "|z 5;");
        refused(2, "|abcdefgh 5;");
        refused(2, "dry |abcdefgh;");
        taken(0, 1, "dry5;");
        taken(0, 1, "dry00005;");
        taken(0, 1, "\n dry\n\n 5 \n;\n ");
        taken(1, 1, "leg0 1 5at0 5from0 9;".replace("5at", "5 at").replace("5from", "5 from"));
        taken(1, 3, "leg-0 1 5;wind0 0 0-5;climb 0-0;");
    }

    private static void grammar() {
        taken(0, 0, "");
        taken(0, 0, "  \n ");
        refused(2, "|;");
        refused(2, "dry 5;|;");
        refused(2, "|5");
        refused(2, "|at 0 1;");
        refused(2, "|legs 0 1 5;");
        refused(2, "|le 0 1 5;");
        refused(2, "dry 5; |drye 5;");
        refused(2, "dry|");
        refused(2, "dry 5  |");
        refused(2, "dry 5 |tank 5;");
        refused(2, "dry 5 |5;");
        refused(2, "dry |;");
        refused(2, "leg 0 |;");
        refused(2, "leg 0 1 5 at 0 |;");
        refused(2, "leg 0 1 5 at 0 1 |at 0 1;");
        refused(2, "leg 0 1 5 from 0 1 |at 0 1;");
        refused(2, "leg 0 1 5 from 0 1 |from 0 1;");
        refused(2, "leg 0 1 5 from 0 1 |5;");
        refused(2, "leg 0 1 5 |speed 0 100;");
        refused(2, "leg 0 1 5 at 0 1 from 0 1|");
        refused(2, "leg 0 1 5 at |from 0 1;");
        refused(2, "speed 0|");
        refused(2, "wind 0 0 |;");
        taken(1, 1, "leg 0 1 5 at 0 1 from 0 1;");
        taken(1, 1, "leg 0 1 5 from 0 0;");
    }

    private static void numbers() {
        refused(3, "leg |10 0 5;");
        refused(3, "leg |-1 0 5;");
        refused(3, "leg 0 |10 5;");
        refused(3, "leg 4 |4 5;");
        refused(3, "leg 0 1 |0;");
        refused(3, "leg 0 1 |1000;");
        refused(3, "leg 0 1 5 at |6 6;");
        refused(3, "leg 0 1 5 at 3 |2;");
        refused(3, "leg 0 1 5 at 3 |6;");
        refused(3, "leg 0 1 5 from |1000 1000;");
        refused(3, "leg 0 1 5 from 7 |6;");
        refused(3, "leg 0 1 5 from 7 |1000;");
        refused(3, "speed |6 400;");
        refused(3, "speed 0 |99;");
        refused(3, "speed 0 |1000;");
        refused(3, "wind 0 0 |0 0;");
        refused(3, "leg 0 1 5; wind |3 0 0 0;");
        refused(3, "leg 0 1 5; wind 0 |6 0 0;");
        refused(3, "leg 0 1 5; wind 0 0 |1 0;");
        refused(3, "leg 0 1 5; wind 0 0 |-1 0;");
        refused(3, "leg 0 1 5; wind 0 0 0 |401;");
        refused(3, "leg 0 1 5; wind 0 0 0 |-401;");
        refused(3, "burn |6 0 5;");
        refused(3, "burn 0 |5 5;");
        refused(3, "burn 0 0 |0;");
        refused(3, "burn 0 0 |10000;");
        refused(3, "climb |6 0;");
        refused(3, "climb 0 |1000;");
        refused(3, "climb 0 |-1;");
        refused(3, "tank |60001;");
        refused(3, "most |60001;");
        refused(3, "land |60001;");
        refused(3, "dry |60001;");
        refused(3, "dry |-1;");
        taken(2, 9, "leg 9 0 999 at 5 5 from 999 999; leg 0 9 1; speed 5 999; wind 2 5 1 -400; wind 2 5 0 400;"
            + " burn 5 4 9999; climb 5 999; tank 60000; dry 0;");
    }

    private static void toldAlready() {
        refused(4, "speed 1 400; speed |1 400;");
        refused(4, "speed 1 400; speed 2 400; speed |1 x;");
        refused(4, "leg 0 1 5; wind 1 2 0 5; wind 1 2 |0 5;");
        refused(4, "burn 1 2 5; burn 1 |2 5;");
        refused(4, "climb 1 5; climb |1 5;");
        refused(4, "tank 5; |tank 5;");
        refused(4, "most 5; |most 5;");
        refused(4, "land 5; |land 5;");
        refused(4, "dry 5; |dry");
        refused(2, "dry 5; |dryy 5;");
        taken(2, 8, "leg 0 1 5; leg 0 1 5; wind 0 0 0 1; wind 1 0 0 1; wind 0 1 0 1; wind 0 0 1 1; climb 0 1; speed 0 500;");
    }

    private static void burnsInOrder() {
        refused(5, "burn 0 1 10; burn 0 2 |9;");
        refused(5, "burn 0 3 10; burn 0 1 |11;");
        refused(5, "burn 0 0 10; burn 0 4 20; burn 0 2 |21;");
        refused(5, "burn 0 0 10; burn 0 4 20; burn 0 2 |9;");
        refused(5, "burn 0 0 10; burn 0 1 12; burn 0 4 |11;");
        refused(5, "burn 0 4 20; burn 0 3 15; burn 0 0 |16 x");
        refused(3, "burn 0 0 10; burn 0 1 |0;");
        refused(3, "burn 0 4 10; burn 0 1 |10000;");
        taken(0, 3, "burn 0 0 10; burn 0 4 10; burn 0 2 10;");
        taken(0, 2, "burn 0 0 10; burn 1 4 5;");
    }

    private static void limits() {
        StringBuilder legs = new StringBuilder();
        for (int i = 0; i < 16; i++) {
            legs.append("leg 0 1 5;");
        }
        taken(16, 16, legs.toString());
        taken(16, 17, legs + "wind 2 5 15 400;");
        refused(2, legs + "|leg 0 1 5;");
        refused(1, legs + "leg 0 1 5; ".replace("leg", "|leglegleg"));
        StringBuilder lines = new StringBuilder("leg 0 1 5;");
        for (int i = 0; i < 18; i++) {
            lines.append("wind").append(i / 6).append(' ').append(i % 6).append(" 0 1;");
        }
        for (int i = 0; i < 30; i++) {
            lines.append("burn").append(i / 5).append(' ').append(i % 5).append(" 10;");
        }
        for (int i = 0; i < 6; i++) {
            lines.append("speed").append(i).append(" 400;");
        }
        lines.append("tank 1;most 1;land 1;dry 1;");
        taken(1, 59, lines.toString());
        taken(1, 60, lines + "climb 0 5; ");
        refused(2, lines + "climb 0 5; |climb 1 5;");
        refused(2, lines + "climb 0 5; |;");
        refused(2, lines + "climb 0 5; |tank 5;");
        refused(1, lines + "climb 0 5; |?");
    }

    private static void latest() {
        FlightDesk desk = new FlightDesk();
        CHECK.due("fault(0) of a new object", desk.fault(0), 0);
        CHECK.due("fault(1) of a new object", desk.fault(1), -1);
        Check.feed(desk, "dry 5");
        CHECK.due("book() without its sign", desk.book(), -1);
        CHECK.due("fault(0) then", desk.fault(0), 2);
        CHECK.due("about(3) then", desk.about(3), 5);
        Check.feed(desk, ";");
        CHECK.due("book() with its sign", desk.book(), 0);
        CHECK.due("fault(0) of the latest", desk.fault(0), 0);
        CHECK.due("fault(1) of the latest", desk.fault(1), -1);
        CHECK.due("told(7)", desk.told(7, 0, 0, 0), 5);
        CHECK.due("book() of nothing", desk.book(), 0);
        CHECK.due("told(7) of an empty BOOK", desk.told(7, 0, 0, 0), 0);
        CHECK.due("about(1) of an empty BOOK", desk.about(1), 0);
    }

    public static void main(String[] args) {
        tokens();
        grammar();
        numbers();
        toldAlready();
        burnsInOrder();
        limits();
        latest();
        CHECK.close();
    }
}
