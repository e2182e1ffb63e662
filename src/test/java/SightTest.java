/** Promises 11 to 16: ALONG and OFF, what a seat sees and where, what blocks it, what shows. */
public final class SightTest {
    private static final long NO_PLACE = -100000000L;
    private static final Due DUE = new Due("SightTest");

    public static void main(String[] args) {
        of();
        seesAndWhere();
        edgesOfPane();
        blocks();
        alongWalls();
        pitWalls();
        shows();
        black();
        DUE.end();
    }

    /** A glass that stands upright at x 0, from y 0 to 80: MIRRORED changes the sign of x. */
    private static GhostPane upright() {
        GhostPane x = new GhostPane();
        x.pane(0, 0, 0, 80);
        x.seat(0, -60, 30);
        return x;
    }

    private static void of() {
        GhostPane x = new GhostPane();
        x.pane(10, 20, 14, 23);
        DUE.is("ALONG", x.of(12, 30, 0), 2 * 4 + 10 * 3);
        DUE.is("OFF", x.of(12, 30, 1), 2 * -3 + 10 * 4);
        DUE.is("L", x.of(12, 30, 2), 25);
        DUE.is("mirrored x", x.of(12, 30, 3), 25 * 12 - 2 * 34 * -3);
        DUE.is("mirrored y", x.of(12, 30, 4), 25 * 30 - 2 * 34 * 4);
        DUE.is("OFF on the other side", x.of(14, 10, 1), 4 * -3 + -10 * 4);
        DUE.is("what -1", x.of(0, 0, -1), NO_PLACE);
        DUE.is("what 5", x.of(0, 0, 5), NO_PLACE);
        for (int what = 0; what <= 4; what++) {
            DUE.is("x 201", x.of(201, 0, what), NO_PLACE);
            DUE.is("x -201", x.of(-201, 0, what), NO_PLACE);
            DUE.is("y 201", x.of(0, 201, what), NO_PLACE);
            DUE.is("y -201", x.of(0, -201, what), NO_PLACE);
        }
        x.pane(-100, -100, 100, 100);
        DUE.is("the diagonal mirrors x into y", x.of(200, -200, 3), -200L * 80000);
        DUE.is("the diagonal mirrors y into x", x.of(200, -200, 4), 200L * 80000);
        x.pane(-100, 100, -100, 99);
        DUE.is("ALONG of a far place", x.of(200, -200, 0), 300);
        DUE.is("OFF of a far place", x.of(200, -200, 1), 300);
    }

    private static void seesAndWhere() {
        GhostPane x = upright();
        DUE.is("sees", x.sees(0, -60, 10), 1);
        DUE.is("at y 20", x.where(0, -60, 10), 250);
        DUE.is("floor of the place", x.where(0, -20, 10), 187);
        DUE.is("behind the glass", x.sees(0, 60, 10), 0);
        DUE.is("behind the glass", x.where(0, 60, 10), -1);
        DUE.is("on the glass", x.sees(0, 0, 10), 0);
        DUE.is("on the glass", x.where(0, 0, 10), -1);
        DUE.is("itself", x.sees(0, -60, 30), 1);
        DUE.is("itself", x.where(0, -60, 30), 375);
        x.seat(1, 0, 30);
        DUE.is("an eye on the glass", x.sees(1, -60, 10), 0);
        DUE.is("an eye on the glass", x.where(1, -60, 10), -1);
        x.seat(2, 60, 30);
        DUE.is("an eye on the other side", x.sees(2, 60, 10), 1);
        DUE.is("an eye on the other side", x.where(2, 60, 10), 250);
        DUE.is("both below, other way round", x.sees(2, -60, 10), 0);
        DUE.is("on the glass, from the other side", x.where(2, 0, 10), -1);
        DUE.is("an eye on the glass, from the other side", x.where(1, 60, 10), -1);
        for (int bad : new int[] {-201, 201, Integer.MIN_VALUE, Integer.MAX_VALUE}) {
            DUE.is("sees x", x.sees(0, bad, 0), -1);
            DUE.is("sees y", x.sees(0, 0, bad), -1);
            DUE.is("where x", x.where(0, bad, 0), -1);
            DUE.is("where y", x.where(0, -60, bad), -1);
            DUE.is("sees seat", x.sees(bad, -60, 10), -1);
            DUE.is("where seat", x.where(bad, -60, 10), -1);
        }
        DUE.is("no seat 3", x.sees(3, -60, 10), -1);
        DUE.is("no seat 3", x.where(3, -60, 10), -1);
        DUE.is("no seat -1", x.sees(-1, -60, 10), -1);
        DUE.is("no seat 8", x.sees(8, -60, 10), -1);
        DUE.is("a far place", x.where(0, -180, -10), 250);
        x.gone(0, 0);
        DUE.is("a seat that is gone", x.sees(0, -60, 10), -1);
    }

    private static void edgesOfPane() {
        GhostPane x = upright();
        DUE.is("at A", x.sees(0, -60, -30), 1);
        DUE.is("at A", x.where(0, -60, -30), 0);
        DUE.is("below A", x.sees(0, -60, -31), 0);
        DUE.is("below A", x.where(0, -60, -31), -1);
        DUE.is("at B", x.sees(0, -60, 130), 1);
        DUE.is("at B", x.where(0, -60, 130), 1000);
        DUE.is("above B", x.sees(0, -60, 131), 0);
        DUE.is("above B", x.where(0, -60, 131), -1);
        x.pane(0, 80, 0, 0);
        DUE.is("the other way round", x.where(0, -60, 10), 750);
        DUE.is("the other way round", x.sees(0, -60, 10), 1);
        x.pane(0, 0, 0, 80);
        x.wall(0, -30, 25, -30, 100, false);
        DUE.is("where, whatever blocks", x.where(0, -60, 10), 250);
        DUE.is("sees, blocked", x.sees(0, -60, 10), 0);
    }

    /** The line from the eye -60, 30 goes to X 0, 20, and on to -60, 10. */
    private static void blocks() {
        GhostPane x = upright();
        x.wall(0, -30, 25, -30, 100, false);
        x.wall(1, -30, 15, -30, -100, false);
        x.wall(2, -30, 26, -30, 100, false);
        x.wall(3, -30, 14, -30, -100, false);
        x.wall(4, -61, 30, -60, 30, false);
        x.wall(5, -60, 10, -60, 0, false);
        x.wall(6, 0, 20, 5, 20, false);
        x.wall(7, 0, 0, 0, 80, false);
        x.wall(11, -40, -100, -20, 100, false);
        DUE.is("to X", x.blocks(0, -60, 10, 0), 1 | 1 << 11);
        DUE.is("from X", x.blocks(0, -60, 10, 1), 2 | 1 << 11);
        DUE.is("sees", x.sees(0, -60, 10), 0);
        x.gone(1, 0);
        x.gone(1, 11);
        DUE.is("to X", x.blocks(0, -60, 10, 0), 0);
        DUE.is("blocked behind X", x.sees(0, -60, 10), 0);
        x.gone(1, 1);
        DUE.is("ends of the lines do not block", x.sees(0, -60, 10), 1);
        DUE.is("ends of the lines do not block", x.blocks(0, -60, 10, 1), 0);
        DUE.is("what 2", x.blocks(0, -60, 10, 2), -1);
        DUE.is("what -1", x.blocks(0, -60, 10, -1), -1);
        DUE.is("no X", x.blocks(0, -60, -31, 0), -1);
        DUE.is("no X", x.blocks(0, 60, 10, 1), -1);
        DUE.is("no seat", x.blocks(1, -60, 10, 0), -1);
        DUE.is("no seat", x.blocks(8, -60, 10, 0), -1);
        DUE.is("no place", x.blocks(0, -201, 10, 0), -1);
        DUE.is("no place", x.blocks(0, -60, 201, 1), -1);
    }

    /** Walls that lie on the line itself. */
    private static void alongWalls() {
        GhostPane x = upright();
        x.wall(0, -48, 28, -42, 27, false);
        DUE.is("within the line", x.blocks(0, -60, 10, 0), 1);
        x.wall(0, -72, 32, -60, 30, false);
        DUE.is("up to the eye", x.blocks(0, -60, 10, 0), 0);
        x.wall(0, -72, 32, -54, 29, false);
        DUE.is("past the eye", x.blocks(0, -60, 10, 0), 1);
        x.wall(0, 0, 20, 6, 19, false);
        DUE.is("from X on", x.blocks(0, -60, 10, 0), 0);
        x.wall(0, -6, 21, 6, 19, false);
        DUE.is("past X", x.blocks(0, -60, 10, 0), 1);
        DUE.is("past X, across the other line at its end", x.blocks(0, -60, 10, 1), 0);
        x.wall(0, -90, 35, 90, 5, false);
        DUE.is("over all of it", x.blocks(0, -60, 10, 0), 1);
        x.wall(0, -90, 36, 90, 6, false);
        DUE.is("beside it", x.blocks(0, -60, 10, 0), 0);
        x.wall(0, -72, 32, 30, 60, false);
        DUE.is("one end on the line's way, behind the eye", x.blocks(0, -60, 10, 0), 0);
        x.wall(0, 30, 60, -72, 32, false);
        DUE.is("one end on the line's way, behind the eye", x.blocks(0, -60, 10, 0), 0);
        x.wall(0, 12, 18, -40, -50, false);
        DUE.is("one end on the line's way, behind X", x.blocks(0, -60, 10, 0), 0);
        x.wall(0, -66, 9, -60, 10, false);
        DUE.is("what is on it, seen along", x.sees(0, -60, 10), 1);
        x.wall(0, -66, 9, -54, 11, false);
        DUE.is("its middle, seen along", x.sees(0, -60, 10), 0);
        x.seat(0, -60, 20);
        x.wall(0, -30, 20, -20, 20, false);
        DUE.is("level line there and back", x.blocks(0, -40, 20, 0), 1);
        DUE.is("level line there and back", x.blocks(0, -40, 20, 1), 1);
        x.pane(-80, 0, 80, 0);
        x.seat(0, 10, 50);
        x.wall(0, 10, 20, 10, 30, false);
        DUE.is("upright line", x.blocks(0, 10, 40, 0), 1);
        x.wall(0, 10, 50, 10, 60, false);
        DUE.is("upright line, up to the eye", x.blocks(0, 10, 40, 0), 0);
        DUE.is("upright line, beyond the place", x.blocks(0, 10, 40, 1), 0);
        x.wall(0, 10, -5, 10, 0, false);
        DUE.is("upright line, from X on", x.blocks(0, 10, 40, 0), 0);
    }

    private static void pitWalls() {
        GhostPane x = upright();
        x.wall(0, -30, 30, -30, 100, false);
        x.wall(1, -30, 30, -30, 100, true);
        DUE.is("above the line", x.blocks(0, -60, 10, 0), 0);
        x.heights(0, 4, 4);
        DUE.is("lowered by 4", x.blocks(0, -60, 10, 0), 0);
        x.heights(0, 4, 5);
        DUE.is("lowered by 5: at it", x.blocks(0, -60, 10, 0), 2);
        x.heights(0, 4, 0);
        DUE.is("not lowered", x.blocks(0, -60, 10, 0), 0);
        x.heights(0, 4, 5);
        x.wall(1, -30, 30, -30, 100, false);
        DUE.is("not of the pit any more", x.blocks(0, -60, 10, 0), 0);
    }

    private static void shows() {
        GhostPane x = upright();
        x.wall(0, 40, 10, -60, 10, false);
        DUE.is("its second end is seen", x.shows(0, 0), 1);
        x.wall(0, -60, 10, 40, 10, false);
        DUE.is("its first end is seen", x.shows(0, 0), 1);
        middle();
        x.wall(0, 20, 10, 60, 10, false);
        DUE.is("behind the glass", x.shows(0, 0), 0);
        x.wall(0, -60, -31, -60, -33, false);
        DUE.is("too low", x.shows(0, 0), 0);
        x.wall(0, -60, -29, -60, -31, true);
        DUE.is("an end in sight", x.shows(0, 0), 1);
        x.heights(0, 4, 1);
        DUE.is("lowered by 1, an end at the edge", x.shows(0, 0), 1);
        x.heights(0, 4, 2);
        DUE.is("lowered out of sight", x.shows(0, 0), 0);
        x.wall(0, -60, 31, -60, -33, true);
        DUE.is("its lowered middle", x.shows(0, 0), 1);
        x.wall(1, -1, 79, -1, 0, false);
        DUE.is("behind another wall", x.shows(0, 0), 0);
        DUE.is("that wall stands in its own line to X", x.shows(1, 0), 0);
        DUE.is("that wall stands in its own line to X", x.blocks(0, -1, 79, 0), 2);
        DUE.is("but not in the line from X to its end", x.blocks(0, -1, 79, 1), 0);
        for (int bad : new int[] {-1, 2, 12, Integer.MIN_VALUE, Integer.MAX_VALUE}) {
            DUE.is("no such wall", x.shows(bad, 0), -1);
        }
        for (int bad : new int[] {-1, 1, 8, Integer.MIN_VALUE, Integer.MAX_VALUE}) {
            DUE.is("no such seat", x.shows(0, bad), -1);
        }
    }

    /** Both ends are out of sight. */
    private static void middle() {
        GhostPane x = upright();
        x.pane(0, 10, 0, 40);
        DUE.is("wall", x.wall(0, -60, 100, -60, -100, false), true);
        DUE.is("no end is seen", x.sees(0, -60, 100) + x.sees(0, -60, -100), 0);
        DUE.is("its middle is seen", x.shows(0, 0), 1);
        DUE.is("wall", x.wall(0, -60, 100, -71, -99, false), true);
        DUE.is("no end is seen", x.sees(0, -60, 100) + x.sees(0, -71, -99), 0);
        DUE.is("a middle between places", x.shows(0, 0), 1);
        DUE.is("wall", x.wall(0, -60, 100, -60, -61, false), true);
        DUE.is("a middle at 19.5", x.shows(0, 0), 1);
        x.pane(0, 10, 0, 24);
        DUE.is("a middle at 19.5 is out of sight", x.shows(0, 0), 0);
        x.pane(0, 10, 0, 25);
        DUE.is("a middle at 19.5 is in sight", x.shows(0, 0), 1);
        x.wall(0, -60, 100, -60, -60, false);
        DUE.is("a middle at 20 is at the edge", x.shows(0, 0), 1);
        x.wall(0, -60, 100, -60, -59, false);
        DUE.is("a middle at 20.5 is out of sight", x.shows(0, 0), 0);
        x.wall(0, -60, 100, -60, -59, true);
        x.heights(0, 4, 1);
        DUE.is("lowered into sight", x.shows(0, 0), 1);
    }

    private static void black() {
        GhostPane x = upright();
        DUE.is("no walls", x.black(), 0);
        x.wall(0, -60, 10, -60, 12, false);
        x.wall(3, 60, 10, 60, 12, false);
        x.wall(11, -70, 10, -70, 12, false);
        DUE.is("to one seat", x.black(), 1 | 1 << 11);
        x.seat(7, 70, 30);
        DUE.is("to either", x.black(), 1 | 1 << 3 | 1 << 11);
        x.gone(0, 0);
        DUE.is("to the other one", x.black(), 1 << 3);
        x.gone(1, 3);
        DUE.is("none", x.black(), 0);
    }
}
