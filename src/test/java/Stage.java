/** Rooms that the tests of edges begin with. */
final class Stage {
    static final String WALK = "go to 1000 in 3; light off; stay 1; light on; rise 8 in 2;";
    static final int LAST = 6;

    private Stage() {
    }

    /** A glass that stands upright at x 0, from y 0 to 80: MIRRORED changes the sign of x. */
    static GhostPane upright() {
        GhostPane x = new GhostPane();
        x.pane(0, 0, 0, 80);
        x.seat(0, -60, 30);
        return x;
    }

    /** The board is level with the floor: a seat has all four counts of this walk by an upright glass. */
    static GhostPane theatre() {
        GhostPane x = upright();
        x.board(-40, 10, -10, 10);
        x.heights(10, 4, 0);
        Due.walk(x, "go to 1000 in 3;");
        return x;
    }

    /** As the theatre, with a glass by which one count alone is seen, and a grid of three by which more are. */
    static GhostPane small() {
        GhostPane x = theatre();
        x.pane(0, 0, 0, 20);
        x.grid(3, 0, 2, 1, 0);
        return x;
    }

    /** Something of everything: a grid, joins, a book, a fault, and a text on the tape that is not walked yet. */
    static GhostPane full() {
        GhostPane x = fullButGrid();
        x.grid(3, 0, 2, 2, 5);
        return x;
    }

    static GhostPane fullButGrid() {
        GhostPane x = new GhostPane();
        x.pane(0, 0, 0, 22);
        x.board(-40, 10, -10, 10);
        x.heights(14, 4, 0);
        x.seat(0, -60, 30);
        x.seat(1, -50, 25);
        x.seat(2, 60, 30);
        x.seat(7, -30, 28);
        x.wall(0, -48, 20, -44, 26, false);
        x.wall(1, -30, 0, -30, 8, true);
        x.wall(11, -60, 5, -20, 7, true);
        x.thing(0, 35, 45, 5, 15);
        x.thing(7, 9, 11, 12, 40);
        Due.walk(x, WALK);
        x.joins(300, 20);
        x.report(0, 3, true);
        x.report(7, 2, false);
        x.report(1, 0, true);
        x.void_(2);
        x.report(0, 1, true);
        Due.walk(x, "at 1001;");
        Due.type(x, "stay 7;");
        return x;
    }

    /** A book of so many acts, reports all of them. */
    static GhostPane booked(int acts) {
        GhostPane x = small();
        for (int act = 1; act <= acts; act++) {
            x.report(0, act % 4, act % 2 == 0);
        }
        return x;
    }

    /** A tape of so many bytes: blanks, and a byte with which no text goes on at the end. */
    static GhostPane taped(int bytes) {
        GhostPane x = new GhostPane();
        Due.type(x, " ".repeat(bytes - 1) + "x");
        return x;
    }
}
