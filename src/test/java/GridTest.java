/** Promises 23 to 26: settings of the glass and of the pit. */
public final class GridTest {
    private static final Due DUE = new Due("GridTest");

    public static void main(String[] args) {
        grid();
        edges();
        numbers();
        triedAndBest();
        byNow();
        take();
        DUE.end();
    }

    private static GhostPane theatre() {
        GhostPane x = new GhostPane();
        x.pane(0, 0, 0, 20);
        x.board(-40, 10, -10, 10);
        x.heights(10, 4, 0);
        x.seat(0, -60, 30);
        Due.walk(x, "go to 1000 in 3;");
        return x;
    }

    private static void grid() {
        GhostPane x = theatre();
        DUE.is("the least", x.grid(1, 0, 0, 1, 0), 1);
        DUE.is("the most", x.grid(6, 20, -20 + 36, 6, 12), 36);
        int[][] wrong = {
            {0, 0, 0, 1, 0}, {7, 0, 0, 1, 0}, {-1, 0, 0, 1, 0}, {1, 21, 0, 1, 0}, {1, -21, 0, 1, 0}, {1, 0, 21, 1, 0},
            {1, 0, -21, 1, 0}, {1, 0, 0, 0, 0}, {1, 0, 0, 7, 0}, {1, 0, 0, 1, 21}, {1, 0, 0, 1, -1},
            {Integer.MAX_VALUE, 1, 1, 1, 1}, {1, Integer.MIN_VALUE, 1, 1, 1}, {1, 1, 1, Integer.MAX_VALUE, 1},
        };
        for (int[] w : wrong) {
            x.grid(2, 1, 1, 2, 1);
            DUE.is("grid before", x.all(4), 4);
            DUE.is("grid", x.grid(w[0], w[1], w[2], w[3], w[4]), -1);
            DUE.is("then none is there", x.all(4), 0);
            DUE.is("then none is there", x.tried(0), -1);
        }
        DUE.is("steps of none", x.grid(6, 0, 0, 6, 0), 36);
        DUE.is("steps that are not gone", x.grid(1, 20, 20, 1, 20), 1);
        DUE.is("the least steps", x.grid(6, -20, 0, 1, 0), 6);
    }

    private static void edges() {
        GhostPane x = theatre();
        x.pane(0, 0, 0, 80);
        DUE.is("B at 100", x.grid(6, 0, 4, 1, 0), 6);
        DUE.is("B at 105", x.grid(6, 0, 5, 1, 0), -1);
        DUE.is("B at x 100", x.grid(6, 20, 0, 1, 0), 6);
        x.pane(0, 0, 1, 80);
        DUE.is("B at x 101", x.grid(6, 20, 0, 1, 0), -1);
        x.pane(0, 0, -1, 80);
        DUE.is("B at x -101", x.grid(6, -20, 0, 1, 0), -1);
        x.pane(0, 0, 0, -80);
        DUE.is("B at y -105", x.grid(6, 0, -5, 1, 0), -1);
        x.pane(0, 0, 0, 20);
        DUE.is("B at A", x.grid(3, 0, -10, 1, 0), -1);
        DUE.is("B ahead of A", x.grid(2, 0, -10, 1, 0), 2);
        DUE.is("B past A", x.grid(6, 0, -8, 1, 0), 6);
        DUE.is("DEEP 60", x.grid(1, 0, 0, 6, 12), 6);
        DUE.is("DEEP 65", x.grid(1, 0, 0, 6, 13), -1);
        x.heights(10, 4, 1);
        DUE.is("DEEP 61", x.grid(1, 0, 0, 6, 12), -1);
        x.heights(10, 4, 60);
        DUE.is("DEEP 60, no steps", x.grid(1, 0, 0, 6, 0), 6);
        DUE.is("DEEP 60, one", x.grid(1, 0, 0, 1, 20), 1);
        DUE.is("DEEP 61", x.grid(1, 0, 0, 2, 1), -1);
    }

    /** Number i m + j, told by what take(k) makes of L and of the feet. */
    private static void numbers() {
        for (int k = 0; k < 6; k++) {
            GhostPane x = theatre();
            DUE.is("grid", x.grid(2, 3, 1, 3, 7), 6);
            DUE.is("take", x.take(k), true);
            int i = k / 3;
            DUE.is("L by " + k, x.of(0, 0, 2), 9L * i * i + (20L + i) * (20 + i));
            DUE.is("ALONG by " + k, x.of(1, 0, 0), 3 * i);
            DUE.is("feet by " + k, x.count(0, 4), 10 - 7 * (k % 3));
        }
    }

    private static void triedAndBest() {
        GhostPane x = theatre();
        DUE.is("tried without a grid", x.tried(0), -1);
        DUE.is("best without a grid", x.best(), -1);
        x.grid(3, 0, 2, 1, 0);
        DUE.is("tried 0", x.tried(0), 1);
        DUE.is("tried 1", x.tried(1), 2);
        DUE.is("tried 2", x.tried(2), 4);
        DUE.is("tried 3", x.tried(3), -1);
        DUE.is("tried -1", x.tried(-1), -1);
        DUE.is("best", x.best(), 2);
        DUE.is("the room is as it was", x.house(), 1);
        x.grid(2, 0, 2, 1, 0);
        DUE.is("best of two", x.best(), 1);
        x.grid(6, 0, 2, 1, 0);
        DUE.is("of several the least", x.best(), 2);
        x.grid(2, 0, 4, 3, 5);
        DUE.is("lowered away from the hand", x.tried(1), 0);
        DUE.is("best", x.best(), 3);
        x.heights(5, 4, 0);
        DUE.is("the room as it is by now", x.tried(4), 4);
        DUE.is("best by now", x.best(), 1);
        x.heights(0, 0, 0);
        DUE.is("held when lowered by 10 alone", x.best(), 2);
        x.heights(100, 0, 0);
        DUE.is("nothing is seen by any", x.best(), 0);
        x.gone(0, 0);
        DUE.is("no seat", x.best(), 0);
        DUE.is("no seat", x.tried(5), 0);
        pitOfSettings();
    }

    /** By a setting of its own DEEP the walls of the pit go down with the board. */
    private static void pitOfSettings() {
        GhostPane x = theatre();
        x.pane(0, 0, 0, 80);
        x.heights(10, 50, 0);
        x.wall(0, -5, 25, -5, 60, true);
        x.grid(1, 0, 0, 4, 20);
        DUE.is("below the wall", x.tried(0), 4);
        DUE.is("the wall comes down with the board", x.tried(1), 0);
        x.wall(0, -5, 25, -5, 60, false);
        DUE.is("the board alone comes down", x.tried(1), 3);
        DUE.is("its own DEEP is as it was", x.tried(0), 4);
    }

    private static void byNow() {
        GhostPane x = theatre();
        x.pane(0, 0, 0, 80);
        x.grid(2, 0, 20, 2, 10);
        DUE.is("can be", x.tried(0), 4);
        x.pane(0, 0, 0, 81);
        DUE.is("B beyond by now", x.tried(0), -1);
        DUE.is("B beyond by now", x.best(), -1);
        DUE.is("B beyond by now", x.take(0), false);
        DUE.is("B beyond by now", x.quarrels(0, -1), -1);
        DUE.is("B beyond by now", x.likely(-1), -1);
        DUE.is("B beyond by now", x.since(), -1);
        DUE.is("it is there", x.all(4), 4);
        x.pane(0, 100, 0, 80);
        DUE.is("A by now", x.tried(0), -1);
        DUE.is("A by now", x.best(), -1);
        x.pane(0, 0, 0, 60);
        DUE.is("again", x.tried(0), 4);
        x.heights(10, 4, 51);
        DUE.is("DEEP by now", x.tried(0), -1);
        DUE.is("DEEP by now", x.take(0), false);
        DUE.is("DEEP by now", x.likely(0), -1);
        x.heights(10, 4, 50);
        DUE.is("again", x.best(), 0);
        DUE.is("again", x.take(3), true);
        DUE.is("DEEP taken", x.count(0, 4), -50);
    }

    private static void take() {
        GhostPane x = theatre();
        DUE.is("take without a grid", x.take(0), false);
        x.grid(3, 0, 2, 1, 0);
        DUE.is("take(-1)", x.take(-1), false);
        DUE.is("take(3)", x.take(3), false);
        DUE.is("the grid stays", x.all(4), 3);
        DUE.is("take(2)", x.take(2), true);
        DUE.is("L", x.of(0, 0, 2), 24 * 24);
        DUE.is("house", x.house(), 4);
        DUE.is("the grid goes", x.all(4), 0);
        DUE.is("the grid goes", x.best(), -1);
        DUE.is("the grid goes", x.take(0), false);
    }
}
