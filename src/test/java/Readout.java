/** All that an object can be asked, in one line. It changes the object at its end: for one use. */
final class Readout {
    private static final int SEATS = 8;
    private static final int WALLS = 12;
    private final GhostPane x;
    private final StringBuilder line = new StringBuilder();

    private Readout(GhostPane x) {
        this.x = x;
    }

    static String of(GhostPane x) {
        Readout readout = new Readout(x);
        readout.room();
        readout.counts();
        readout.sight();
        readout.settings();
        readout.book();
        readout.tape();
        return readout.line.toString();
    }

    private void name(String name) {
        line.append(' ').append(name);
    }

    private void add(long answer) {
        line.append(' ').append(answer);
    }

    private void room() {
        name("all");
        for (int what = 0; what <= 5; what++) {
            add(x.all(what));
        }
        name("fault");
        add(x.fault(0));
        add(x.fault(1));
        name("of");
        for (int what = 0; what <= 4; what++) {
            add(x.of(0, 0, what));
            add(x.of(-7, 31, what));
        }
        name("join");
        for (int k = 0; k < 6; k++) {
            add(x.join(k));
        }
    }

    private void counts() {
        name("count");
        for (int c = 0; c <= Math.min(x.all(5), 8); c++) {
            for (int what = 0; what <= 6; what++) {
                add(x.count(c, what));
            }
        }
    }

    private void sight() {
        name("sees");
        for (int s = 0; s < SEATS; s++) {
            add(x.sees(s, -40, 10));
            add(x.where(s, -40, 18));
            add(x.blocks(s, -40, 18, 0));
            add(x.blocks(s, -22, 8, 1));
            add(x.counts(s));
            add(x.has(s, 0));
        }
        name("shows");
        for (int w = 0; w < WALLS; w++) {
            add(x.shows(w, 0));
            add(x.shows(w, 7));
        }
        add(x.black());
        add(x.house());
    }

    private void settings() {
        name("tried");
        for (int k = 0; k < Math.min(x.all(4), 6); k++) {
            add(x.tried(k));
        }
        add(x.best());
    }

    private void book() {
        name("quarrels");
        for (int act = 0; act <= Math.min(x.all(3), 6); act++) {
            add(x.quarrels(0, act));
            add(x.quarrels(5, act));
            add(x.likely(act));
        }
        add(x.quarrels(2, -1));
        add(x.since());
        name("void_");
        for (int act = 1; act <= Math.min(x.all(3), 6); act++) {
            add(x.void_(act));
        }
    }

    private void tape() {
        name("tape");
        add(tapeLength());
        add(x.walk());
        add(x.fault(0));
        add(x.fault(1));
        add(x.take(0) ? 1 : 0);
        add(x.of(0, 0, 2));
        add(x.count(0, 4));
    }

    /** What feed tells, or end, when there is no place for a feed more. */
    private int tapeLength() {
        int longer = x.feed(0, 0, 0, 0, 0);
        if (longer != GhostPane.NONE) {
            x.end(longer - 20);
            return longer - 20;
        }
        for (int n = 600; n > 580; n--) {
            if (x.end(n)) {
                return n;
            }
        }
        return GhostPane.NONE;
    }
}
