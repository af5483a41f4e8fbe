/** What the tests share: counting wrong answers, and putting a text on a desk's tape. */
final class Check {
    private int wrong = 0;
    private int asked = 0;

    void due(String call, long got, long want) {
        asked++;
        if (got != want) {
            wrong++;
            System.out.println(call + " answered " + got + ", due is " + want);
        }
    }

    void due(String call, boolean got, boolean want) {
        due(call, got ? 1 : 0, want ? 1 : 0);
    }

    void close() {
        System.out.println(asked + " answers, " + wrong + " not as due");
        if (wrong != 0 || asked == 0) {
            System.exit(1);
        }
    }

    boolean isClean() {
        return wrong == 0;
    }

    /** Puts a text behind what is on the tape; characters are bytes 0 to 255. */
    static void feed(FlightDesk desk, String text) {
        int length = desk.about(3);
        for (int i = 0; i < text.length(); i += 20) {
            desk.feed(word(text, i), word(text, i + 4), word(text, i + 8), word(text, i + 12), word(text, i + 16));
            length = Math.min(length + 20, length + text.length() - i);
            desk.end(length);
        }
    }

    /** A new desk with a BOOK of that text. */
    static FlightDesk desk(String text) {
        FlightDesk desk = new FlightDesk();
        feed(desk, text);
        if (desk.book() == FlightDesk.NONE) {
            throw new IllegalStateException("fault " + desk.fault(0) + " at " + desk.fault(1) + " in " + text);
        }
        return desk;
    }

    private static int word(String text, int start) {
        int word = 0;
        for (int i = start; i < start + 4; i++) {
            word = word << 8 | (i < text.length() ? text.charAt(i) & 255 : 32);
        }
        return word;
    }
}
