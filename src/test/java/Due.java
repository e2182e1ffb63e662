import java.nio.charset.StandardCharsets;

/** Counts the answers that are not those due, and prints each. */
final class Due {
    private static final int CHUNK = 20;
    private final String name;
    private int asked;
    private int wrong;

    Due(String name) {
        this.name = name;
    }

    void is(String call, long got, long want) {
        asked++;
        if (got != want) {
            wrong++;
            System.out.println(name + ": " + call + " answered " + got + ", due is " + want);
        }
    }

    void is(String call, boolean got, boolean want) {
        is(call, got ? 1 : 0, want ? 1 : 0);
    }

    /** A text with its last count, or NONE with the FAULT and its place. */
    void walks(GhostPane pane, String text, int last) {
        is("walk of \"" + text + "\"", walk(pane, text), last);
        is("fault(0) of \"" + text + "\"", pane.fault(0), 0);
        is("fault(1) of \"" + text + "\"", pane.fault(1), GhostPane.NONE);
    }

    void fails(GhostPane pane, String text, int fault, int place) {
        is("walk of \"" + text + "\"", walk(pane, text), GhostPane.NONE);
        is("fault(0) of \"" + text + "\"", pane.fault(0), fault);
        is("fault(1) of \"" + text + "\"", pane.fault(1), place);
    }

    void end() {
        System.out.println(name + ": " + asked + " answers, " + wrong + " wrong");
        if (wrong != 0) {
            System.exit(1);
        }
    }

    /** Puts a text on the tape instead of what is there. */
    static void type(GhostPane pane, String text) {
        byte[] bytes = text.getBytes(StandardCharsets.ISO_8859_1);
        pane.end(0);
        for (int from = 0; from < bytes.length; from += CHUNK) {
            pane.feed(number(bytes, from), number(bytes, from + 4), number(bytes, from + 8),
                number(bytes, from + 12), number(bytes, from + 16));
        }
        pane.end(bytes.length);
    }

    static int walk(GhostPane pane, String text) {
        type(pane, text);
        return pane.walk();
    }

    static int number(byte[] bytes, int from) {
        int number = 0;
        for (int k = from; k < from + 4; k++) {
            number = number << 8 | (k < bytes.length ? bytes[k] & 255 : ' ');
        }
        return number;
    }
}
