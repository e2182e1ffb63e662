/** Edges of promises 29 to 34: the book, and how many there are of all. */
final class BookEdges {
    private static final int[] NO_SETTING = {-1, 6, Integer.MIN_VALUE, Integer.MAX_VALUE};
    private static final int[] NO_ACT = {-2, 6, 101, Integer.MIN_VALUE, Integer.MAX_VALUE};

    private BookEdges() {
    }

    static void rows(Edge edge) {
        report(edge);
        reportFull(edge);
        voids(edge);
        voidsFull(edge);
        quarrels(edge);
        quarrelsKnown(edge);
        quarrelsUnseen(edge);
        quarrelsAlone(edge);
        likely(edge);
        likelyTies(edge);
        since(edge);
        sinceFull(edge);
        byNow(edge);
        all(edge);
        allMost(edge);
    }

    private static void report(Edge edge) {
        edge.about(29, "report");
        for (int s : new int[] {-1, 8, Integer.MIN_VALUE, Integer.MAX_VALUE}) {
            edge.refuses("SEAT " + s, x -> x.report(s, 0, true), -1);
        }
        for (int c : new int[] {-1, 241, Integer.MIN_VALUE, Integer.MAX_VALUE}) {
            edge.refuses("count " + c, x -> x.report(0, c, false), -1);
        }
        GhostPane x = new GhostPane();
        edge.is("SEAT 0, count 0: the first ACT", x.report(0, 0, true), 1);
        edge.is("SEAT 7 that is none", x.report(7, 0, false), 2);
        edge.is("count 240 behind the last one", x.report(0, 240, true), 3);
        edge.is("the same again", x.report(0, 240, true), 4);
        edge.is("ACTS", x.all(3), 4);
    }

    private static void reportFull(Edge edge) {
        GhostPane x = Stage.booked(98);
        edge.is("ACT 99", x.report(0, 0, true), 99);
        edge.is("ACT 100", x.report(0, 0, true), 100);
        edge.is("there are 100", x.report(0, 0, true), -1);
        edge.is("still 100", x.all(3), 100);
        edge.refuses("there are 100", () -> Stage.booked(100), y -> y.report(0, 0, true), -1);
        edge.refuses("there are 100, the last one a VOID", BookEdges::fullByVoid, y -> y.report(0, 0, true), -1);
    }

    private static GhostPane fullByVoid() {
        GhostPane x = Stage.booked(99);
        x.void_(99);
        return x;
    }

    private static void voids(Edge edge) {
        edge.about(30, "void_");
        for (int act : new int[] {0, -1, 6, 101, Integer.MIN_VALUE, Integer.MAX_VALUE}) {
            edge.refuses("none such: " + act, x -> x.void_(act), -1);
        }
        edge.refuses("the first of an empty BOOK", GhostPane::new, x -> x.void_(1), -1);
        edge.refuses("it is VOID", Stage::full, x -> x.void_(2), -1);
        edge.refuses("it is no REPORT", Stage::full, x -> x.void_(4), -1);
        GhostPane x = new GhostPane();
        x.report(0, 0, true);
        edge.is("none behind the last one", x.void_(2), -1);
        edge.is("the first ACT", x.void_(1), 2);
        edge.is("the first ACT, VOID", x.void_(1), -1);
        edge.is("a VOID", x.void_(2), -1);
        edge.is("a REPORT behind it", x.report(0, 0, true), 3);
        edge.is("the last ACT", x.void_(3), 4);
        edge.is("ACTS", x.all(3), 4);
    }

    private static void voidsFull(Edge edge) {
        edge.is("ACT 99", Stage.booked(98).void_(1), 99);
        edge.is("ACT 100", Stage.booked(99).void_(99), 100);
        edge.refuses("there are 100", () -> Stage.booked(100), x -> x.void_(1), -1);
        edge.refuses("there are 100, the last one", () -> Stage.booked(100), x -> x.void_(100), -1);
        edge.refuses("there are 100, the last one a VOID", BookEdges::fullByVoid, x -> x.void_(1), -1);
    }

    private static void quarrels(Edge edge) {
        edge.about(31, "quarrels");
        for (int k : NO_SETTING) {
            edge.refuses("SETTING " + k, x -> x.quarrels(k, -1), -1);
        }
        for (int act : NO_ACT) {
            edge.refuses("ACT " + act, x -> x.quarrels(0, act), -1);
        }
        edge.refuses("without a GRID", Stage::fullButGrid, x -> x.quarrels(0, -1), -1);
        edge.leaves("asked alone", x -> x.quarrels(5, -1));
        GhostPane x = Stage.small();
        edge.is("an empty BOOK, the last one", x.quarrels(0, -1), 0);
        edge.is("an empty BOOK, ahead of all", x.quarrels(0, 0), 0);
        edge.is("an empty BOOK, ACT 1", x.quarrels(0, 1), -1);
        edge.is("an empty BOOK, the last SETTING", x.quarrels(2, -1), 0);
        edge.is("an empty BOOK, behind the last SETTING", x.quarrels(3, -1), -1);
    }

    /** By SETTING 0 the FACE is seen at count 3 alone, by 1 at 2 too, by 2 at all of 0 to 3. */
    private static void quarrelsKnown(Edge edge) {
        GhostPane x = Stage.small();
        x.report(0, 2, true);
        x.report(0, 2, false);
        x.void_(1);
        x.report(0, 0, true);
        x.void_(2);
        int[][] due = {{0, 1, 1, 0, 1, 1}, {0, 0, 1, 1, 2, 1}, {0, 0, 1, 1, 1, 0}};
        for (int k = 0; k < 3; k++) {
            for (int act = 0; act <= 5; act++) {
                edge.is("SETTING " + k + " as known at " + act, x.quarrels(k, act), due[k][act]);
            }
            edge.is("SETTING " + k + " as known at the last one", x.quarrels(k, -1), due[k][5]);
            edge.is("SETTING " + k + ", no ACT 6", x.quarrels(k, 6), -1);
        }
        GhostPane all = Stage.booked(100);
        edge.is("as known at 100", all.quarrels(0, 100), all.quarrels(0, -1));
        edge.is("as known at 101", all.quarrels(0, 101), -1);
        edge.is("as known at 100", all.quarrels(0, 100), 75);
    }

    private static int quarrel(GhostPane x, int s, int c, boolean saw) {
        x.report(s, c, saw);
        return x.quarrels(0, x.all(3)) - x.quarrels(0, x.all(3) - 1);
    }

    /** What is not seen quarrels with what was told to be seen, and the other way round. */
    private static void quarrelsUnseen(Edge edge) {
        for (int told = 0; told <= 1; told++) {
            boolean saw = told == 1;
            GhostPane x = Stage.theatre();
            x.grid(1, 0, 0, 1, 0);
            edge.is("the last count, saw " + told, quarrel(x, 0, 3, saw), 1 - told);
            edge.is("a count behind the last one, saw " + told, quarrel(x, 0, 4, saw), told);
            edge.is("count 240, saw " + told, quarrel(x, 0, 240, saw), told);
            edge.is("a SEAT that is none, saw " + told, quarrel(x, 7, 0, saw), told);
            x.seat(7, -60, 30);
            edge.is("a SEAT that is one, saw " + told, quarrel(x, 7, 0, saw), 1 - told);
            x.gone(0, 7);
            edge.is("a SEAT that is none any more, saw " + told, quarrel(x, 7, 0, saw), told);
            Due.walk(x, "stay 200; light off; stay 40;");
            edge.is("a count in light, saw " + told, quarrel(x, 0, 199, saw), 1 - told);
            edge.is("a dark one, saw " + told, quarrel(x, 0, 200, saw), told);
            edge.is("the last one in the dark, saw " + told, quarrel(x, 0, 240, saw), told);
            Due.walk(x, "light off; stay 200; stay 40; light on;");
            edge.is("count 240 in light, saw " + told, quarrel(x, 0, 240, saw), 1 - told);
        }
    }

    /** The FACE alone is asked: not the FEET, not whether it is HELD, not a CLASH. */
    private static void quarrelsAlone(Edge edge) {
        GhostPane x = Stage.theatre();
        x.seat(0, -40, 30);
        x.pane(0, 24, 0, 80);
        x.heights(100, 0, 0);
        x.thing(0, -100, 100, -100, 100);
        x.grid(1, 0, 0, 1, 0);
        edge.is("the FACE by the glass's end", quarrel(x, 0, 0, true), 0);
        x.pane(0, 25, 0, 80);
        edge.is("the FACE below the glass", quarrel(x, 0, 0, true), 1);
        x.pane(0, 0, 0, 24);
        edge.is("the FACE by the glass's other end", quarrel(x, 0, 0, false), 1);
        x.pane(0, 0, 0, 23);
        edge.is("the FACE above the glass", quarrel(x, 0, 0, false), 0);
    }

    private static void likely(Edge edge) {
        edge.about(32, "likely");
        for (int act : NO_ACT) {
            edge.refuses("ACT " + act, x -> x.likely(act), -1);
        }
        edge.refuses("without a GRID", Stage::fullButGrid, x -> x.likely(-1), -1);
        edge.refuses("without a GRID, ahead of all", GhostPane::new, x -> x.likely(0), -1);
        edge.leaves("asked alone", x -> x.likely(-1));
        GhostPane x = Stage.small();
        edge.is("an empty BOOK", x.likely(-1), 0);
        edge.is("an empty BOOK, ahead of all", x.likely(0), 0);
        edge.is("an empty BOOK, ACT 1", x.likely(1), -1);
        x.report(0, 0, true);
        edge.is("the last SETTING alone", x.likely(-1), 2);
        edge.is("as known at 1", x.likely(1), 2);
        edge.is("as known ahead of it", x.likely(0), 0);
        edge.is("no ACT 2", x.likely(2), -1);
        x.void_(1);
        edge.is("VOID", x.likely(2), 0);
        edge.is("not yet VOID", x.likely(1), 2);
        edge.is("the last one", x.likely(-1), 0);
        edge.is("no ACT 3", x.likely(3), -1);
    }

    private static void likelyTies(Edge edge) {
        GhostPane x = Stage.small();
        x.report(0, 2, true);
        edge.is("SETTINGS 1 and 2: the least number", x.likely(-1), 1);
        x.report(0, 2, false);
        edge.is("all alike: the least number", x.likely(-1), 0);
        x.report(5, 0, true);
        edge.is("all with a QUARREL more", x.likely(-1), 0);
        x.report(0, 1, true);
        edge.is("the greatest number", x.likely(-1), 2);
        x = Stage.small();
        x.grid(2, 0, 2, 1, 0);
        x.report(0, 0, true);
        edge.is("none behind the last SETTING, with fewer QUARRELS", x.likely(-1), 0);
        GhostPane all = Stage.booked(0);
        for (int act = 1; act <= 100; act++) {
            all.report(5, 0, true);
        }
        edge.is("100 QUARRELS each", all.quarrels(2, -1), 100);
        edge.is("100 QUARRELS each: the least number", all.likely(-1), 0);
        edge.is("as known at 100", all.likely(100), 0);
        edge.is("as known at 101", all.likely(101), -1);
    }

    private static void since(Edge edge) {
        edge.about(33, "since");
        edge.refuses("without a GRID", GhostPane::new, x -> x.since(), -1);
        edge.refuses("without a GRID", Stage::fullButGrid, x -> x.since(), -1);
        edge.leaves("asked alone", x -> x.since());
        GhostPane x = Stage.small();
        edge.is("an empty BOOK", x.since(), 0);
        x.report(0, 3, true);
        edge.is("ever the same", x.since(), 0);
        x.report(0, 0, true);
        edge.is("the last one alone", x.since(), 2);
        x.report(0, 0, true);
        edge.is("from the one before it on", x.since(), 2);
        x.void_(2);
        edge.is("still", x.since(), 2);
        x.void_(3);
        edge.is("the same as at first, but not between", x.since(), 5);
        x.report(0, 0, true);
        edge.is("another one again", x.since(), 6);
        x.grid(1, 0, 0, 1, 0);
        edge.is("one SETTING: ever the same", x.since(), 0);
        x = Stage.small();
        x.report(0, 2, true);
        edge.is("SETTING 0, and then 1 from ACT 1 on", x.since(), 1);
        x = Stage.small();
        x.grid(2, 0, 2, 1, 0);
        x.report(0, 0, true);
        edge.is("none behind the last SETTING, with fewer QUARRELS", x.since(), 0);
    }

    private static void sinceFull(Edge edge) {
        GhostPane x = Stage.small();
        x.report(0, 0, true);
        for (int act = 2; act <= 99; act++) {
            x.report(0, 3, true);
        }
        edge.is("from ACT 1 on", x.since(), 1);
        x.void_(1);
        edge.is("ACT 100 alone", x.since(), 100);
        edge.is("ACTS", x.all(3), 100);
        x = Stage.small();
        for (int act = 1; act <= 100; act++) {
            x.report(0, act < 100 ? 3 : 2, true);
        }
        edge.is("another one at ACT 100", x.since(), 100);
        x.gone(0, 0);
        edge.is("none sees: ever the same", x.since(), 0);
        edge.is("with 100 QUARRELS each", x.quarrels(2, 100), 100);
    }

    private static GhostPane tight() {
        GhostPane x = Stage.theatre();
        x.grid(2, 0, 20, 2, 10);
        x.report(0, 0, true);
        return x;
    }

    private static GhostPane beyond() {
        GhostPane x = tight();
        x.pane(0, 0, 0, 81);
        return x;
    }

    private static GhostPane onA() {
        GhostPane x = tight();
        x.pane(0, 100, 0, 80);
        return x;
    }

    private static GhostPane tooDeep() {
        GhostPane x = tight();
        x.heights(10, 4, 51);
        return x;
    }

    private static void byNow(Edge edge) {
        edge.about(31, "quarrels");
        for (int k = 0; k <= 3; k++) {
            int number = k;
            edge.is("can be, SETTING " + k, tight().quarrels(k, -1) >= 0, true);
            edge.refuses("by now B is beyond the PLACES", BookEdges::beyond, x -> x.quarrels(number, -1), -1);
            edge.refuses("by now B is A", BookEdges::onA, x -> x.quarrels(number, 1), -1);
            edge.refuses("by now DEEP is above 60", BookEdges::tooDeep, x -> x.quarrels(number, 0), -1);
        }
        edge.about(32, "likely");
        for (int act = -1; act <= 1; act++) {
            int known = act;
            edge.is("can be, ACT " + act, tight().likely(act), 0);
            edge.refuses("by now a B is beyond the PLACES", BookEdges::beyond, x -> x.likely(known), -1);
            edge.refuses("by now a B is A", BookEdges::onA, x -> x.likely(known), -1);
            edge.refuses("by now a DEEP is above 60", BookEdges::tooDeep, x -> x.likely(known), -1);
        }
        edge.about(33, "since");
        edge.is("can be", tight().since(), 0);
        edge.refuses("by now a B is beyond the PLACES", BookEdges::beyond, x -> x.since(), -1);
        edge.refuses("by now a B is A", BookEdges::onA, x -> x.since(), -1);
        edge.refuses("by now a DEEP is above 60", BookEdges::tooDeep, x -> x.since(), -1);
        GhostPane x = beyond();
        x.pane(0, 0, 0, 80);
        edge.is("by now it can be again", x.since(), 0);
        edge.about(34, "all");
        edge.is("SETTINGS, whether by now it can be or not", beyond().all(4), 4);
        edge.is("SETTINGS, whether by now it can be or not", onA().all(4), 4);
        edge.is("SETTINGS, whether by now it can be or not", tooDeep().all(4), 4);
    }

    private static void all(Edge edge) {
        edge.about(34, "all");
        for (int what : new int[] {-1, 6, Integer.MIN_VALUE, Integer.MAX_VALUE}) {
            edge.refuses("what " + what, x -> x.all(what), -1);
        }
        int[] due = {4, 3, 2, 5, 6, Stage.LAST};
        for (int what = 0; what <= 5; what++) {
            int kind = what;
            edge.is("what " + what + " of a new object", new GhostPane().all(what), 0);
            edge.is("what " + what, Stage.full().all(what), due[what]);
            edge.leaves("asked alone", x -> x.all(kind));
        }
        edge.is("SETTINGS without a GRID", Stage.fullButGrid().all(4), 0);
        GhostPane x = Stage.full();
        x.take(0);
        edge.is("SETTINGS when the GRID has gone", x.all(4), 0);
    }

    private static void allMost(Edge edge) {
        GhostPane x = Stage.booked(100);
        for (int k = 0; k < 12; k++) {
            x.seat(k, 0, 0);
            x.wall(k, 0, 0, 1, 1, true);
            x.thing(k, 0, 1, 0, 1);
        }
        x.grid(6, 0, 1, 6, 1);
        Due.walk(x, "stay 200; stay 40;");
        int[] most = {8, 12, 8, 100, 36, 240};
        for (int what = 0; what <= 5; what++) {
            edge.is("the most of " + what, x.all(what), most[what]);
        }
        x.gone(0, 7);
        x.gone(1, 11);
        x.gone(2, 0);
        edge.is("SEATS, one less", x.all(0), 7);
        edge.is("WALLS, one less", x.all(1), 11);
        edge.is("THINGS, one less", x.all(2), 7);
    }
}
