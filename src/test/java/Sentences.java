import java.io.IOException;
import java.nio.file.Files;
import java.nio.file.Path;

/**
 * A walk through the document: each of its sentences is quoted beside the test that it has. A quote that
 * does not stand in its section, a section that is left out and words that no quote holds count as wrong.
 */
final class Sentences {
    private static final Path DOCUMENT = Path.of("../shared/DOC.md");

    private final String document;
    private final boolean[] quoted;
    private int sectionStart = 0;
    private int sectionEnd = 0;
    private String sentence = "";
    private int sentences = 0;
    private int asked = 0;
    private int wrong = 0;

    Sentences() throws IOException {
        document = Files.exists(DOCUMENT) ? plain(Files.readString(DOCUMENT)) : "";
        quoted = new boolean[document.length()];
    }

    /** One line without the marks of code blocks and without the signatures, which SourceTest looks at. */
    private static String plain(String text) {
        return text.replaceAll("```[a-z]*", " ").replaceAll("\\s+", " ").replaceAll("(## Promise [^`]*)`[^`]*`:", "$1");
    }

    void section(String heading) {
        if (document.isEmpty()) {
            return;
        }
        int start = document.indexOf("## " + heading + " ");
        if (start < 0) {
            fail("no section " + heading);
            return;
        }
        sectionStart = start;
        int next = document.indexOf("## ", start + 3);
        sectionEnd = next < 0 ? document.length() : next;
        mark(start, start + 3 + heading.length());
    }

    /** The sentence stands in the section, and its test asks something. */
    void holds(String quote, Runnable test) {
        sentence = quote;
        sentences++;
        quote(quote);
        int before = asked;
        test.run();
        if (asked == before) {
            fail("its test asks nothing");
        }
    }

    void due(String call, long got, long want) {
        asked++;
        if (got != want) {
            fail(call + " answered " + got + ", due is " + want);
        }
    }

    void due(String call, boolean got, boolean want) {
        due(call, got ? 1 : 0, want ? 1 : 0);
    }

    /** The text without its mark | is no BOOK: its FAULT is at the mark. */
    void refused(int fault, String marked) {
        int place = marked.indexOf('|');
        String text = marked.substring(0, place) + marked.substring(place + 1);
        FlightDesk desk = new FlightDesk();
        Check.feed(desk, text);
        due("book() of " + marked, desk.book(), -1);
        due("fault(0) of " + marked, desk.fault(0), fault);
        due("fault(1) of " + marked, desk.fault(1), place);
    }

    /** The text is a BOOK with so many LEGS; the desk that has it. */
    FlightDesk taken(int legs, String text) {
        FlightDesk desk = new FlightDesk();
        Check.feed(desk, text);
        due("book() of " + text, desk.book(), legs);
        due("fault(0) of " + text, desk.fault(0), 0);
        due("fault(1) of " + text, desk.fault(1), -1);
        return desk;
    }

    /** The number between head and tail may be low .. high and nothing else; a BOOK has so many LEGS. */
    void bounds(int legs, String head, int low, int high, String tail) {
        taken(legs, head + low + tail);
        taken(legs, head + high + tail);
        int[] others = {low - 1, high + 1, -99999, 99999};
        for (int other : others) {
            refused(3, head + "|" + other + tail);
        }
    }

    void close() {
        findUnquoted();
        System.out.println(sentences + " sentences, " + asked + " answers, " + wrong + " not as due");
        if (wrong != 0 || asked == 0) {
            System.exit(1);
        }
    }

    private void fail(String what) {
        wrong++;
        System.out.println("\"" + sentence + "\": " + what);
    }

    private void quote(String quote) {
        if (document.isEmpty()) {
            return;
        }
        int start = document.indexOf(quote, sectionStart);
        if (start < 0 || start + quote.length() > sectionEnd) {
            fail("stands not in its section of the document");
            return;
        }
        mark(start, start + quote.length());
    }

    private void mark(int start, int end) {
        for (int i = start; i < end; i++) {
            quoted[i] = true;
        }
    }

    /** Of "Terms" and the promises no letter or digit is left out. */
    private void findUnquoted() {
        if (document.isEmpty()) {
            System.out.println("no " + DOCUMENT + " here: quotes are not looked at");
            return;
        }
        sentence = "";
        int end = document.indexOf("## Not promised");
        int i = document.indexOf("## Terms");
        while (i >= 0 && i < end) {
            int start = i;
            while (i < end && !quoted[i]) {
                i++;
            }
            String left = document.substring(start, i);
            if (left.matches(".*[A-Za-z0-9].*")) {
                fail("no test quotes: " + left);
            }
            i++;
        }
    }
}
