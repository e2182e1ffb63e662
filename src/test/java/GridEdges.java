/** Edges of promises 23 to 26: settings of the glass and of the pit. */
final class GridEdges {
    private static final int[][] CANNOT = {
        {0, 1, 1, 1, 1}, {7, 1, 1, 1, 1}, {-1, 1, 1, 1, 1}, {Integer.MIN_VALUE, 1, 1, 1, 1}, {Integer.MAX_VALUE, 1, 1, 1, 1},
        {1, -21, 1, 1, 1}, {1, 21, 1, 1, 1}, {1, Integer.MIN_VALUE, 1, 1, 1}, {1, Integer.MAX_VALUE, 1, 1, 1},
        {1, 1, -21, 1, 1}, {1, 1, 21, 1, 1}, {1, 1, Integer.MIN_VALUE, 1, 1}, {1, 1, Integer.MAX_VALUE, 1, 1},
        {1, 1, 1, 0, 1}, {1, 1, 1, 7, 1}, {1, 1, 1, -1, 1}, {1, 1, 1, Integer.MIN_VALUE, 1}, {1, 1, 1, Integer.MAX_VALUE, 1},
        {1, 1, 1, 1, -1}, {1, 1, 1, 1, 21}, {1, 1, 1, 1, Integer.MIN_VALUE}, {1, 1, 1, 1, Integer.MAX_VALUE},
        {6, 0, 20, 1, 0}, {3, 0, -11, 1, 0}, {1, 0, 0, 6, 13}, {1, 0, 0, 5, 20}, {0, 0, 0, 0, 0},
    };
    private static final int[] NO_SETTING = {-1, 6, Integer.MIN_VALUE, Integer.MAX_VALUE};

    private GridEdges() {
    }

    static void rows(Edge edge) {
        grid(edge);
        gridNumbers(edge);
        gridPlaces(edge);
        gridDeep(edge);
        tried(edge);
        triedByNow(edge);
        best(edge);
        bestByNow(edge);
        take(edge);
        takeEach(edge);
        takeByNow(edge);
    }

    private static int gridOf(GhostPane x, int[] v) {
        return x.grid(v[0], v[1], v[2], v[3], v[4]);
    }

    private static String told(int[] v) {
        return "grid(" + v[0] + ", " + v[1] + ", " + v[2] + ", " + v[3] + ", " + v[4] + ")";
    }

    /** A refused grid() does nothing but that none is there. */
    private static void grid(Edge edge) {
        edge.about(23, "grid");
        for (int[] v : CANNOT) {
            GhostPane x = Stage.full();
            edge.is("a GRID ahead of " + told(v), x.all(4), 6);
            edge.is(told(v), gridOf(x, v), -1);
            edge.is("then none is there", x.all(4), 0);
            edge.is("then none is there", x.tried(0), -1);
            edge.is("then none is there", x.best(), -1);
            edge.same("all else", Readout.of(x), Readout.of(Stage.fullButGrid()));
        }
        GhostPane x = Stage.full();
        edge.is("another GRID", x.grid(1, 0, 0, 2, 0), 2);
        edge.is("is there instead", x.all(4), 2);
        edge.is("is there instead", x.tried(2), -1);
    }

    private static void gridNumbers(Edge edge) {
        GhostPane x = new GhostPane();
        x.pane(0, 0, 0, 50);
        int[][] can = {{1, 0, 0, 1, 0}, {6, 0, 0, 1, 0}, {1, 0, 0, 6, 0}, {6, 0, 0, 6, 0}, {6, 20, 0, 1, 0}, {6, -20, 0, 1, 0},
            {3, 0, 20, 1, 0}, {6, 0, -20, 1, 0}, {1, 0, 0, 4, 20}, {1, 20, 20, 1, 20}, {1, -20, -20, 1, 0}, {6, 20, 10, 6, 12}};
        for (int[] v : can) {
            edge.is(told(v), gridOf(x, v), v[0] * v[3]);
            edge.is("SETTINGS", x.all(4), v[0] * v[3]);
        }
    }

    private static int gridFrom(int bx, int by, int n, int sx, int sy) {
        GhostPane x = new GhostPane();
        x.pane(10, 10, bx, by);
        return x.grid(n, sx, sy, 1, 0);
    }

    private static void gridPlaces(Edge edge) {
        edge.is("B up to x 100", gridFrom(0, 50, 6, 20, 0), 6);
        edge.is("B up to x 101", gridFrom(1, 50, 6, 20, 0), -1);
        edge.is("one less of them", gridFrom(1, 50, 5, 20, 0), 5);
        edge.is("B down to x -100", gridFrom(0, 50, 6, -20, 0), 6);
        edge.is("B down to x -101", gridFrom(-1, 50, 6, -20, 0), -1);
        edge.is("B up to y 100", gridFrom(50, 0, 6, 0, 20), 6);
        edge.is("B up to y 101", gridFrom(50, 1, 6, 0, 20), -1);
        edge.is("B down to y -100", gridFrom(50, 0, 6, 0, -20), 6);
        edge.is("B down to y -101", gridFrom(50, -1, 6, 0, -20), -1);
        edge.is("the last B is A", gridFrom(20, 30, 3, -5, -10), -1);
        edge.is("one less of them", gridFrom(20, 30, 2, -5, -10), 2);
        edge.is("a B between is A", gridFrom(20, 30, 6, -5, -10), -1);
        edge.is("a B with A's x alone", gridFrom(20, 30, 3, -5, -9), 3);
        edge.is("a B with A's y alone", gridFrom(20, 30, 3, -4, -10), 3);
        edge.is("a B at the corner, no step to go", gridFrom(100, 100, 1, 20, 20), 1);
        edge.is("one step to go", gridFrom(100, 100, 2, 1, 0), -1);
    }

    private static int gridDeepFrom(int deep, int m, int sd) {
        GhostPane x = new GhostPane();
        x.heights(0, 4, deep);
        return x.grid(1, 0, 0, m, sd);
    }

    private static void gridDeep(Edge edge) {
        edge.is("DEEP up to 60", gridDeepFrom(0, 6, 12), 6);
        edge.is("DEEP up to 61", gridDeepFrom(1, 6, 12), -1);
        edge.is("DEEP up to 60 by the longest steps", gridDeepFrom(0, 4, 20), 4);
        edge.is("DEEP up to 61 by the longest steps", gridDeepFrom(1, 4, 20), -1);
        edge.is("DEEP 60, no step to go", gridDeepFrom(60, 1, 20), 1);
        edge.is("DEEP 60, steps of 0", gridDeepFrom(60, 6, 0), 6);
        edge.is("DEEP 61", gridDeepFrom(60, 2, 1), -1);
        edge.is("DEEP 60 by one step", gridDeepFrom(59, 2, 1), 2);
    }

    private static void tried(Edge edge) {
        edge.about(24, "tried");
        for (int k : NO_SETTING) {
            edge.refuses("SETTING " + k, x -> x.tried(k), -1);
        }
        edge.refuses("without a GRID", Stage::fullButGrid, x -> x.tried(0), -1);
        edge.leaves("THE ROOM as it is", x -> x.tried(5));
        GhostPane x = Stage.small();
        edge.is("SETTING 0 is as THE ROOM is", x.tried(0), x.house());
        edge.is("SETTING 0", x.tried(0), 1);
        edge.is("SETTING 1", x.tried(1), 2);
        edge.is("SETTING 2, the last", x.tried(2), 4);
        edge.is("SETTING 3", x.tried(3), -1);
        x.grid(2, 0, 4, 3, 5);
        int[] due = {1, 0, 0, 4, 0, 0};
        for (int k = 0; k < 6; k++) {
            edge.is("number i m + j: " + k, x.tried(k), due[k]);
        }
        x.heights(5, 4, 0);
        edge.is("THE ROOM as it is else: another floor", x.tried(4), 4);
        x.gone(0, 0);
        edge.is("THE ROOM as it is else: no SEAT", x.tried(4), 0);
    }

    /** Goes on from THE PANE and DEEP as they are by now: B 0, 80 and 0, 100, DEEP 0 and 10. */
    private static GhostPane tight() {
        GhostPane x = Stage.theatre();
        x.grid(2, 0, 20, 2, 10);
        return x;
    }

    private static GhostPane beyond() {
        GhostPane x = tight();
        x.pane(0, 0, 0, 81);
        return x;
    }

    private static GhostPane onA() {
        GhostPane x = tight();
        x.pane(0, 100, 0, 80);
        return x;
    }

    private static GhostPane tooDeep() {
        GhostPane x = tight();
        x.heights(10, 4, 51);
        return x;
    }

    private static void triedByNow(Edge edge) {
        for (int k = 0; k <= 3; k++) {
            int number = k;
            edge.is("can be, SETTING " + k, tight().tried(k) >= 0, true);
            edge.refuses("by now B is beyond the PLACES, SETTING " + k, GridEdges::beyond, x -> x.tried(number), -1);
            edge.refuses("by now B is A, SETTING " + k, GridEdges::onA, x -> x.tried(number), -1);
            edge.refuses("by now DEEP is above 60, SETTING " + k, GridEdges::tooDeep, x -> x.tried(number), -1);
        }
        GhostPane x = beyond();
        x.pane(0, 0, 0, 79);
        edge.is("by now it can be again", x.tried(0), 4);
        x.heights(10, 50, 50);
        edge.is("DEEP up to 60", x.tried(3) >= 0, true);
        x.heights(10, 50, 51);
        edge.is("DEEP up to 61", x.tried(0), -1);
    }

    private static void best(Edge edge) {
        edge.about(25, "best");
        edge.refuses("without a GRID", GhostPane::new, x -> x.best(), -1);
        edge.refuses("without a GRID", Stage::fullButGrid, x -> x.best(), -1);
        edge.leaves("THE ROOM as it is", x -> x.best());
        GhostPane x = Stage.small();
        edge.is("the greatest HOUSE is the last one's", x.best(), 2);
        x.grid(2, 0, 2, 1, 0);
        edge.is("none behind the last SETTING, by which more were seen", x.best(), 1);
        x.grid(6, 0, 2, 1, 0);
        edge.is("of several the least number", x.best(), 2);
        x.grid(1, 0, 0, 1, 0);
        edge.is("of one", x.best(), 0);
        x.grid(2, 0, 4, 3, 0);
        edge.is("of several the least number, in the second row", x.best(), 3);
        x.grid(6, 0, 16, 6, 0);
        edge.is("of 36", x.best(), 6);
        x.gone(0, 0);
        edge.is("all of HOUSE 0", x.best(), 0);
    }

    private static void bestByNow(Edge edge) {
        edge.is("can be", tight().best(), 0);
        edge.refuses("by now a B is beyond the PLACES", GridEdges::beyond, x -> x.best(), -1);
        edge.refuses("by now a B is A", GridEdges::onA, x -> x.best(), -1);
        edge.refuses("by now a DEEP is above 60", GridEdges::tooDeep, x -> x.best(), -1);
        GhostPane x = tooDeep();
        x.heights(10, 4, 50);
        edge.is("by now it can be again", x.best(), 0);
    }

    private static void take(Edge edge) {
        edge.about(26, "take");
        for (int k : NO_SETTING) {
            edge.denies("SETTING " + k, x -> x.take(k));
        }
        edge.denies("without a GRID", Stage::fullButGrid, x -> x.take(0));
        GhostPane x = Stage.small();
        edge.is("SETTING 3 of three", x.take(3), false);
        edge.is("the GRID stays", x.all(4), 3);
        edge.is("SETTING 2 of three", x.take(2), true);
        edge.is("B is 4 farther", x.of(0, 0, 2), 24 * 24);
        edge.is("the GRID goes", x.all(4), 0);
        edge.is("the GRID goes", x.take(0), false);
        edge.is("the GRID goes", x.tried(0), -1);
        edge.is("B is as it was", x.of(0, 0, 2), 24 * 24);
        GhostPane taken = Stage.full();
        taken.take(0);
        edge.same("SETTING 0: all but the GRID", Readout.of(taken), Readout.of(Stage.fullButGrid()));
    }

    private static void takeEach(Edge edge) {
        for (int k = 0; k < 36; k++) {
            GhostPane x = Stage.theatre();
            x.pane(0, 0, 0, 50);
            x.grid(6, 3, -2, 6, 7);
            edge.is("SETTING " + k, x.take(k), true);
            int i = k / 6;
            int j = k % 6;
            edge.is("B by " + k, x.of(3 * i, 50 - 2 * i, 1), 0);
            edge.is("B by " + k, x.of(3 * i, 50 - 2 * i, 0), x.of(0, 0, 2));
            edge.is("L by " + k, x.of(0, 0, 2), 9L * i * i + (50L - 2 * i) * (50 - 2 * i));
            edge.is("DEEP by " + k, x.count(0, 4), 10 - 7 * j);
        }
    }

    private static void takeByNow(Edge edge) {
        for (int k = 0; k <= 3; k++) {
            int number = k;
            edge.is("can be, SETTING " + k, tight().take(k), true);
            edge.denies("by now B is beyond the PLACES, SETTING " + k, GridEdges::beyond, x -> x.take(number));
            edge.denies("by now B is A, SETTING " + k, GridEdges::onA, x -> x.take(number));
            edge.denies("by now DEEP is above 60, SETTING " + k, GridEdges::tooDeep, x -> x.take(number));
        }
        GhostPane x = beyond();
        edge.is("refused", x.take(0), false);
        edge.is("the GRID is there", x.all(4), 4);
        x.pane(0, 0, 0, 79);
        edge.is("by now it can be again", x.take(3), true);
        edge.is("B goes on from where it is by now", x.of(0, 0, 2), 99 * 99);
        edge.is("DEEP", x.count(0, 4), 0);
    }
}
