/** Promises 1 to 10 and 34: what the room takes and what it refuses. */
public final class RoomTest {
    private static final int[] BEYOND = {-101, 101, Integer.MIN_VALUE, Integer.MAX_VALUE};
    private static final Due DUE = new Due("RoomTest");

    public static void main(String[] args) {
        newObject();
        tape();
        pane();
        board();
        heights();
        seats();
        walls();
        things();
        gone();
        all();
        DUE.end();
    }

    private static void newObject() {
        GhostPane x = new GhostPane();
        DUE.is("NONE", GhostPane.NONE, -1);
        for (int what = 0; what <= 5; what++) {
            DUE.is("all(" + what + ") at first", x.all(what), 0);
        }
        DUE.is("L of the first pane", x.of(0, 0, 2), 100 * 100 + 80 * 80);
        DUE.is("ALONG of A at first", x.of(-50, 0, 0), 0);
        DUE.is("ALONG of B at first", x.of(50, 80, 0), 16400);
        DUE.is("feet x at first", x.count(0, 3), -60);
        DUE.is("feet y at first", x.count(0, 4), -40);
        DUE.is("light at first", x.count(0, 2), 1);
        DUE.is("fault(0) at first", x.fault(0), 0);
        DUE.is("fault(1) at first", x.fault(1), -1);
        DUE.is("black at first", x.black(), 0);
        DUE.is("house at first", x.house(), 0);
        DUE.is("best at first", x.best(), -1);
        DUE.is("join at first", x.join(0), -1);
        DUE.is("void_ at first", x.void_(1), -1);
        Due.walk(x, "go to 1000 in 1;");
        DUE.is("feet x at D", x.count(1, 3), 60);
        DUE.is("feet y at D", x.count(1, 4), -40);
        firstHeights();
    }

    /** The floor is at 0, HAND is 4 and DEEP is 0 until told. */
    private static void firstHeights() {
        GhostPane x = new GhostPane();
        x.pane(0, -100, 0, 100);
        x.board(-40, 4, 40, 4);
        DUE.is("4 above the first floor", x.count(0, 5), 1);
        x.board(-40, -4, 40, -4);
        DUE.is("4 below the first floor", x.count(0, 5), 1);
        x.board(-40, 5, 40, 5);
        DUE.is("5 above the first floor", x.count(0, 5), 0);
    }

    private static void tape() {
        GhostPane x = new GhostPane();
        DUE.is("end(1) of an empty tape", x.end(1), false);
        DUE.is("end(0) of an empty tape", x.end(0), true);
        for (int k = 1; k <= 30; k++) {
            DUE.is("feed " + k, x.feed(0x20202020, 0x20202020, 0x0a0a0a0a, 0x20202020, 0x20202020), 20 * k);
        }
        DUE.is("feed 31", x.feed(0, 0, 0, 0, 0), -1);
        DUE.is("end(601)", x.end(601), false);
        DUE.is("end(-1)", x.end(-1), false);
        DUE.is("end(least)", x.end(Integer.MIN_VALUE), false);
        DUE.is("end(600)", x.end(600), true);
        DUE.is("end(581)", x.end(581), true);
        DUE.is("feed beyond 600", x.feed(0, 0, 0, 0, 0), -1);
        DUE.is("end(580)", x.end(580), true);
        DUE.is("feed up to 600", x.feed(0x20202020, 0x20202020, 0x20202020, 0x20202020, 0x20202078), 600);
        DUE.is("walk of 600 bytes", x.walk(), -1);
        DUE.is("the last byte is the lowest of e", x.fault(1), 599);
        DUE.is("the tape goes", x.feed(0x73746179, 0x2037303b, 0, 0, 0), 20);
        DUE.is("end(8)", x.end(8), true);
        DUE.is("stay 70;", x.walk(), 70);
        DUE.is("end behind what goes", x.end(1), false);
        x.feed(0x73746179, 0x2037303b, -1, -1, -1);
        DUE.is("walk with other bytes", x.walk(), -1);
        DUE.is("their place", x.fault(1), 8);
    }

    private static void pane() {
        GhostPane x = new GhostPane();
        for (int far : BEYOND) {
            DUE.is("pane ax", x.pane(far, 0, 1, 1), false);
            DUE.is("pane ay", x.pane(0, far, 1, 1), false);
            DUE.is("pane bx", x.pane(0, 0, far, 1), false);
            DUE.is("pane by", x.pane(0, 0, 1, far), false);
        }
        DUE.is("pane without length", x.pane(7, 7, 7, 7), false);
        DUE.is("refused panes change nothing", x.of(0, 0, 2), 16400);
        DUE.is("the longest pane", x.pane(-100, -100, 100, 100), true);
        DUE.is("its L", x.of(0, 0, 2), 80000);
        DUE.is("pane, one x", x.pane(3, 4, 3, 5), true);
        DUE.is("its L", x.of(0, 0, 2), 1);
        DUE.is("pane, one y", x.pane(3, 4, 2, 4), true);
        DUE.is("its ALONG", x.of(0, 0, 0), 3);
    }

    private static void board() {
        GhostPane x = new GhostPane();
        for (int far : BEYOND) {
            DUE.is("board cx", x.board(far, 0, 1, 1), false);
            DUE.is("board cy", x.board(0, far, 1, 1), false);
            DUE.is("board dx", x.board(0, 0, far, 1), false);
            DUE.is("board dy", x.board(0, 0, 1, far), false);
        }
        DUE.is("board without length", x.board(7, 7, 7, 7), false);
        DUE.is("refused boards change nothing", x.count(0, 3), -60);
        DUE.is("board", x.board(-100, 100, 100, -100), true);
        DUE.is("its x", x.count(0, 3), -100);
        DUE.is("its y", x.count(0, 4), 100);
    }

    private static void heights() {
        GhostPane x = new GhostPane();
        DUE.is("floor -101", x.heights(-101, 0, 0), false);
        DUE.is("floor 101", x.heights(101, 0, 0), false);
        DUE.is("hand -1", x.heights(0, -1, 0), false);
        DUE.is("hand 51", x.heights(0, 51, 0), false);
        DUE.is("deep -1", x.heights(0, 0, -1), false);
        DUE.is("deep 61", x.heights(0, 0, 61), false);
        DUE.is("refused heights change nothing", x.count(0, 4), -40);
        DUE.is("the least", x.heights(-100, 0, 0), true);
        DUE.is("the most", x.heights(100, 50, 60), true);
        DUE.is("lowered", x.count(0, 4), -100);
        x.board(-60, -100, 60, -100);
        DUE.is("lowered below the places", x.count(0, 4), -160);
    }

    private static void seats() {
        GhostPane x = new GhostPane();
        for (int far : BEYOND) {
            DUE.is("seat x", x.seat(0, far, 0), false);
            DUE.is("seat y", x.seat(0, 0, far), false);
        }
        DUE.is("seat -1", x.seat(-1, 0, 0), false);
        DUE.is("seat 8", x.seat(8, 0, 0), false);
        DUE.is("no seats", x.all(0), 0);
        for (int s = 0; s < 8; s++) {
            DUE.is("seat " + s, x.seat(s, -100 + s, 100), true);
            DUE.is("seats", x.all(0), s + 1);
        }
        DUE.is("seat 3 again", x.seat(3, 100, -100), true);
        DUE.is("seats", x.all(0), 8);
    }

    private static void walls() {
        GhostPane x = new GhostPane();
        for (int far : BEYOND) {
            DUE.is("wall ax", x.wall(0, far, 0, 1, 1, false), false);
            DUE.is("wall ay", x.wall(0, 0, far, 1, 1, true), false);
            DUE.is("wall bx", x.wall(0, 0, 0, far, 1, false), false);
            DUE.is("wall by", x.wall(0, 0, 0, 1, far, true), false);
        }
        DUE.is("wall without length", x.wall(0, 5, 5, 5, 5, false), false);
        DUE.is("wall -1", x.wall(-1, 0, 0, 1, 1, false), false);
        DUE.is("wall 12", x.wall(12, 0, 0, 1, 1, false), false);
        DUE.is("no walls", x.all(1), 0);
        for (int w = 0; w < 12; w++) {
            DUE.is("wall " + w, x.wall(w, -100, 100, 100, -100 + w, w % 2 == 0), true);
            DUE.is("walls", x.all(1), w + 1);
        }
        DUE.is("wall 11 again", x.wall(11, 0, 0, 0, 1, false), true);
        DUE.is("walls", x.all(1), 12);
    }

    private static void things() {
        GhostPane x = new GhostPane();
        for (int far : BEYOND) {
            DUE.is("thing from x", x.thing(0, far, 100, 0, 1), false);
            DUE.is("thing to x", x.thing(0, -100, far, 0, 1), false);
            DUE.is("thing from y", x.thing(0, 0, 1, far, 100), false);
            DUE.is("thing to y", x.thing(0, 0, 1, -100, far), false);
        }
        DUE.is("thing of no width", x.thing(0, 5, 5, 0, 1), false);
        DUE.is("thing of no height", x.thing(0, 0, 1, 5, 5), false);
        DUE.is("thing backward in x", x.thing(0, 6, 5, 0, 1), false);
        DUE.is("thing backward in y", x.thing(0, 0, 1, 6, 5), false);
        DUE.is("thing -1", x.thing(-1, 0, 1, 0, 1), false);
        DUE.is("thing 8", x.thing(8, 0, 1, 0, 1), false);
        DUE.is("no things", x.all(2), 0);
        for (int t = 0; t < 8; t++) {
            DUE.is("thing " + t, x.thing(t, -100, 100, -100 + t, 100), true);
            DUE.is("things", x.all(2), t + 1);
        }
        DUE.is("thing 0 again", x.thing(0, 0, 1, 0, 1), true);
        DUE.is("things", x.all(2), 8);
    }

    private static void gone() {
        int[] many = {8, 12, 8};
        for (int what = 0; what < 3; what++) {
            GhostPane x = new GhostPane();
            for (int k = 0; k < many[what]; k++) {
                DUE.is("gone ahead", x.gone(what, k), false);
                x.seat(k, 0, 0);
                x.wall(k, 0, 0, 1, 1, false);
                x.thing(k, 0, 1, 0, 1);
            }
            for (int k : new int[] {-1, many[what], Integer.MIN_VALUE, Integer.MAX_VALUE}) {
                DUE.is("gone(" + what + ", " + k + ")", x.gone(what, k), false);
            }
            for (int k = 0; k < many[what]; k++) {
                DUE.is("gone(" + what + ", " + k + ")", x.gone(what, k), true);
                DUE.is("gone twice", x.gone(what, k), false);
                DUE.is("those left", x.all(what), many[what] - 1 - k);
            }
        }
        GhostPane x = new GhostPane();
        x.seat(0, 0, 0);
        x.wall(0, 0, 0, 1, 1, false);
        x.thing(0, 0, 1, 0, 1);
        DUE.is("gone(-1, 0)", x.gone(-1, 0), false);
        DUE.is("gone(3, 0)", x.gone(3, 0), false);
    }

    private static void all() {
        GhostPane x = new GhostPane();
        DUE.is("all(-1)", x.all(-1), -1);
        DUE.is("all(6)", x.all(6), -1);
        x.report(0, 0, true);
        x.void_(1);
        DUE.is("acts", x.all(3), 2);
        x.grid(2, 1, 1, 3, 20);
        DUE.is("settings", x.all(4), 6);
        x.heights(0, 4, 21);
        DUE.is("settings of a grid that can't be by now", x.all(4), 6);
        x.grid(7, 0, 0, 1, 0);
        DUE.is("settings without a grid", x.all(4), 0);
        Due.walk(x, "stay 12;");
        DUE.is("last count", x.all(5), 12);
        Due.walk(x, "stay;");
        DUE.is("last count after a fault", x.all(5), 12);
    }
}
