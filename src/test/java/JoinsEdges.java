/** Edges of promises 27 and 28: joins of the glass. */
final class JoinsEdges {
    private JoinsEdges() {
    }

    static void rows(Edge edge) {
        joins(edge);
        noFaces(edge);
        nearness(edge);
        noSuch(edge);
        fewest(edge);
        ends(edge);
        whichFaces(edge);
        join(edge);
        latest(edge);
    }

    /** The eye is as far from the glass as the FACE -40, 8: X is half way up between both. */
    private static GhostPane faceAt(int thousandth) {
        GhostPane x = new GhostPane();
        x.pane(0, -100, 0, 100);
        x.board(-40, 0, -10, 0);
        x.seat(0, -40, 2 * (thousandth / 5 - 100) - 8);
        return x;
    }

    private static void joined(Edge edge, GhostPane x, int m, int j, int... places) {
        String call = "joins(" + m + ", " + j + ")";
        edge.is(call, x.joins(m, j), places.length);
        for (int k = 0; k < places.length; k++) {
            edge.is(call + ", JOIN " + k, x.join(k), places[k]);
        }
        edge.is(call + ", none behind the last", x.join(places.length), -1);
    }

    private static void joins(Edge edge) {
        edge.about(27, "joins");
        for (int m : new int[] {0, -1, 1001, Integer.MIN_VALUE, Integer.MAX_VALUE}) {
            edge.refuses("M " + m, x -> x.joins(m, 0), -1);
        }
        for (int j : new int[] {-1, 101, Integer.MIN_VALUE, Integer.MAX_VALUE}) {
            edge.refuses("J " + j, x -> x.joins(500, j), -1);
        }
        edge.refuses("M and J", x -> x.joins(0, 101), -1);
        edge.refuses("there are no such", Stage::full, x -> x.joins(1, 100), -2);
        edge.is("M 1, J 0", new GhostPane().joins(1, 0), 999);
        edge.is("M 1000, J 100", new GhostPane().joins(1000, 100), 0);
        edge.is("M 1000, J 0", new GhostPane().joins(1000, 0), 0);
    }

    private static void noFaces(Edge edge) {
        GhostPane x = new GhostPane();
        joined(edge, x, 1000, 100);
        joined(edge, x, 999, 0, 999);
        joined(edge, x, 501, 0, 501);
        joined(edge, x, 500, 0, 500);
        joined(edge, x, 499, 0, 499, 998);
        joined(edge, x, 334, 0, 334, 668);
        joined(edge, x, 333, 0, 333, 666, 999);
        x.joins(1, 0);
        for (int k = 0; k < 999; k += 7) {
            edge.is("M 1: JOIN " + k, x.join(k), k + 1);
        }
        x = new GhostPane();
        edge.is("M 2", x.joins(2, 0), 499);
        edge.is("M 2: the last one", x.join(498), 998);
    }

    private static void nearness(Edge edge) {
        GhostPane x = faceAt(500);
        edge.is("the FACE is seen at", x.where(0, -40, 8), 500);
        joined(edge, x, 500, 0, 500);
        joined(edge, x, 500, 1, 499, 999);
        joined(edge, x, 501, 1, 501);
        joined(edge, x, 599, 100, 400, 999);
        joined(edge, x, 600, 100, 600);
        joined(edge, x, 500, 100, 400, 900);
        joined(edge, x, 500, 99, 401, 901);
        joined(edge, x, 1000, 100);
        x.seat(0, -40, 93);
        edge.is("the FACE is seen at 752.5", x.where(0, -40, 8), 752);
        joined(edge, x, 752, 1, 751);
        joined(edge, x, 753, 1, 753);
        joined(edge, x, 754, 2, 754);
        joined(edge, x, 753, 2, 750);
    }

    private static void noSuch(Edge edge) {
        GhostPane x = faceAt(500);
        edge.is("from 480 to 520 in one sheet", x.joins(40, 20) > 0, true);
        edge.is("a sheet that is one shorter", x.joins(39, 20), -2);
        edge.is("from 400 to 600 in one sheet", x.joins(200, 100), 4);
        edge.is("a sheet that is one shorter", x.joins(199, 100), -2);
        edge.is("from 499 to 501 in one sheet", x.joins(2, 1), 500);
        edge.is("a sheet that is one shorter", x.joins(1, 1), -2);
        edge.is("with J 0", x.joins(1, 0), 999);
        x.gone(0, 0);
        edge.is("without a FACE", x.joins(1, 100), 999);
    }

    /** The first one in which two differ is farther on, and none is more than needed. */
    private static void fewest(Edge edge) {
        GhostPane x = faceAt(400);
        joined(edge, x, 200, 100, 200, 300, 500, 700, 900);
        joined(edge, x, 300, 50, 300, 600, 900);
        joined(edge, x, 370, 50, 350, 720);
        joined(edge, x, 649, 100, 649);
        x.seat(1, -40, 92);
        edge.is("another FACE at", x.where(1, -40, 8), 750);
        joined(edge, x, 400, 30, 370, 720);
        joined(edge, x, 400, 31, 369, 719);
        joined(edge, x, 649, 100, 649);
        joined(edge, x, 651, 100, 650);
        joined(edge, x, 749, 100, 650);
        joined(edge, x, 850, 100, 850);
    }

    private static void ends(Edge edge) {
        GhostPane x = faceAt(500);
        x.seat(0, -40, 92);
        x.pane(0, -100, 0, 50);
        edge.is("the FACE is seen at B", x.where(0, -40, 8), 1000);
        joined(edge, x, 999, 0, 999);
        joined(edge, x, 999, 1, 999);
        joined(edge, x, 999, 2, 998);
        joined(edge, x, 999, 100, 900);
        edge.is("up to B in one sheet", x.joins(100, 100), 9);
        edge.is("a sheet that is one shorter", x.joins(99, 100), -2);
        x.pane(0, 50, 0, -100);
        edge.is("the FACE is seen at A", x.where(0, -40, 8), 0);
        joined(edge, x, 500, 100, 500);
        edge.is("from A in one sheet", x.joins(100, 100), 9);
        edge.is("a sheet that is one shorter", x.joins(99, 100), -2);
        edge.is("J 1 at A", x.joins(1, 1), 999);
        edge.is("J 2 at A", x.joins(1, 2), -2);
        x.gone(0, 0);
        edge.is("no FACE at A any more", x.joins(1, 2), 999);
        x.seat(0, -40, 92);
        x.pane(0, -100, 0, 50);
        edge.is("J 2 at B", x.joins(1, 2), -2);
        x.gone(0, 0);
        edge.is("no FACE at B any more", x.joins(1, 2), 999);
    }

    /** A FACE that a SEAT sees in light, be it HELD or not, and CLASH or not. */
    private static void whichFaces(Edge edge) {
        GhostPane x = faceAt(500);
        x.heights(100, 0, 0);
        x.thing(0, -100, 100, -100, 100);
        joined(edge, x, 500, 1, 499, 999);
        Due.walk(x, "light off;");
        joined(edge, x, 500, 1, 500);
        Due.walk(x, "light off; stay 239; light on; stay 1;");
        joined(edge, x, 500, 1, 500);
        Due.walk(x, "light off; stay 200; stay 40; light on;");
        joined(edge, x, 500, 1, 499, 999);
        Due.walk(x, "stay 1; light off; stay 1;");
        joined(edge, x, 500, 1, 499, 999);
        x.wall(11, -20, -100, -20, 100, false);
        joined(edge, x, 500, 1, 500);
        x.gone(1, 11);
        x.seat(0, 40, -8);
        joined(edge, x, 500, 1, 500);
        x.seat(7, -40, -8);
        joined(edge, x, 500, 1, 499, 999);
        x.gone(0, 7);
        joined(edge, x, 500, 1, 500);
    }

    private static void join(Edge edge) {
        edge.about(28, "join");
        edge.refuses("ahead of any joins()", GhostPane::new, x -> x.join(0), -1);
        for (int k : new int[] {-1, 3, 999, 1000, Integer.MIN_VALUE, Integer.MAX_VALUE}) {
            edge.refuses("JOIN " + k, x -> x.join(k), -1);
        }
        edge.leaves("asked alone", x -> x.join(0));
        GhostPane x = new GhostPane();
        x.joins(1, 0);
        edge.is("JOIN 0 of the most", x.join(0), 1);
        edge.is("JOIN 998 of the most", x.join(998), 999);
        edge.is("JOIN 999 of the most", x.join(999), -1);
        x.joins(500, 0);
        edge.is("JOIN 0 of the fewer", x.join(0), 500);
        edge.is("JOIN 1 of the fewer", x.join(1), -1);
    }

    private static void latest(Edge edge) {
        GhostPane x = faceAt(500);
        x.joins(510, 20);
        edge.is("a number can't be", x.joins(0, 0), -1);
        edge.is("those before stay", x.join(1), 990);
        edge.is("a number can't be", x.joins(10, 101), -1);
        edge.is("those before stay", x.join(1), 990);
        edge.is("there are no such", x.joins(39, 20), -2);
        edge.is("those before stay", x.join(0), 480);
        edge.is("those before stay", x.join(1), 990);
        edge.is("and no more", x.join(2), -1);
        x.pane(-50, 0, 50, 80);
        x.gone(0, 0);
        edge.is("those before stay with another PANE", x.join(0), 480);
        edge.is("none needed", x.joins(1000, 20), 0);
        edge.is("then there is none", x.join(0), -1);
        edge.is("no such behind it", faceless(), -1);
    }

    /** None was needed, and then none was found: none stays. */
    private static int faceless() {
        GhostPane x = faceAt(500);
        x.joins(500, 0);
        x.joins(1000, 0);
        x.joins(39, 20);
        return x.join(0);
    }
}
