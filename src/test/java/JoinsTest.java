/** Promises 27 and 28: joins of the glass. */
public final class JoinsTest {
    private static final Due DUE = new Due("JoinsTest");

    public static void main(String[] args) {
        noFaces();
        oneFace();
        manyFaces();
        whichFaces();
        facesAtEnds();
        latest();
        DUE.end();
    }

    private static void joined(GhostPane x, int m, int j, int... places) {
        String call = "joins(" + m + ", " + j + ")";
        DUE.is(call, x.joins(m, j), places.length);
        for (int k = 0; k < places.length; k++) {
            DUE.is(call + ", join " + k, x.join(k), places[k]);
        }
        DUE.is(call + ", join behind the last", x.join(places.length), -1);
        DUE.is(call + ", join -1", x.join(-1), -1);
    }

    private static void noFaces() {
        GhostPane x = new GhostPane();
        joined(x, 1000, 0);
        joined(x, 1000, 100);
        joined(x, 999, 100, 999);
        joined(x, 500, 100, 500);
        joined(x, 499, 0, 499, 998);
        joined(x, 334, 50, 334, 668);
        joined(x, 333, 50, 333, 666, 999);
        DUE.is("joins(1, 0)", x.joins(1, 0), 999);
        DUE.is("join(0)", x.join(0), 1);
        DUE.is("join(998)", x.join(998), 999);
        DUE.is("join(999)", x.join(999), -1);
        for (int bad : new int[] {0, -1, 1001, Integer.MIN_VALUE, Integer.MAX_VALUE}) {
            DUE.is("joins(" + bad + ", 0)", x.joins(bad, 0), -1);
        }
        for (int bad : new int[] {-1, 101, Integer.MIN_VALUE, Integer.MAX_VALUE}) {
            DUE.is("joins(10, " + bad + ")", x.joins(10, bad), -1);
        }
    }

    /** The eye is as far from the glass as the face: X is half way up between both. */
    private static GhostPane faceAt(int thousandth) {
        GhostPane x = new GhostPane();
        x.pane(0, -100, 0, 100);
        x.board(-40, 0, -10, 0);
        x.seat(0, -40, 2 * (thousandth / 5 - 100) - 8);
        DUE.is("where", x.where(0, -40, 8), thousandth);
        return x;
    }

    private static void oneFace() {
        GhostPane x = faceAt(500);
        joined(x, 500, 0, 500);
        joined(x, 500, 1, 499, 999);
        joined(x, 501, 1, 501);
        joined(x, 510, 20, 480, 990);
        joined(x, 520, 20, 520);
        joined(x, 519, 20, 480, 999);
        DUE.is("as long as the gap", x.joins(40, 20) > 0, true);
        DUE.is("shorter than the gap", x.joins(39, 20), -2);
        DUE.is("no way", x.joins(199, 100), -2);
        joined(x, 200, 100, 200, 400, 600, 800);
        joined(x, 198, 99, 198, 396, 401, 599, 797, 995);
        DUE.is("one less", x.joins(197, 99), -2);
        x = faceAt(400);
        joined(x, 200, 100, 200, 300, 500, 700, 900);
        joined(x, 300, 50, 300, 600, 900);
        joined(x, 370, 50, 350, 720);
    }

    private static void manyFaces() {
        GhostPane x = faceAt(400);
        x.seat(1, -40, 92);
        DUE.is("where 1", x.where(1, -40, 8), 750);
        joined(x, 400, 30, 370, 720);
        joined(x, 400, 31, 369, 719);
        joined(x, 380, 30, 370, 720);
        Due.walk(x, "go to 1000 in 1;");
        DUE.is("where at D", x.where(0, -10, 8), 484);
        DUE.is("where at D, seat 1", x.where(1, -10, 8), 624);
        joined(x, 480, 10, 474, 954);
        joined(x, 480, 5, 479, 959);
        joined(x, 480, 4, 480, 960);
        joined(x, 600, 30, 594);
    }

    private static void whichFaces() {
        GhostPane x = faceAt(500);
        x.heights(100, 0, 0);
        x.thing(0, -100, 100, -100, 100);
        joined(x, 500, 1, 499, 999);
        x.wall(0, -20, -100, -20, 100, false);
        joined(x, 500, 1, 500);
        x.gone(1, 0);
        joined(x, 500, 1, 499, 999);
        Due.walk(x, "light off;");
        joined(x, 500, 1, 500);
        Due.walk(x, "light off; stay 1; light on; stay 1;");
        joined(x, 500, 1, 499, 999);
        x.gone(0, 0);
        joined(x, 500, 1, 500);
        x = faceAt(500);
        Due.walk(x, "light off; rise 5 in 2; light on;");
        joined(x, 500, 1, 499, 999);
        Due.walk(x, "light off; stay 1; light on; rise 10 in 2; light off;");
        joined(x, 525, 1, 524);
    }

    private static void facesAtEnds() {
        GhostPane x = faceAt(500);
        x.seat(0, -40, 92);
        x.pane(0, -100, 0, 50);
        DUE.is("where", x.where(0, -40, 8), 1000);
        joined(x, 999, 1, 999);
        joined(x, 999, 2, 998);
        joined(x, 999, 100, 900);
        x.pane(0, 50, 0, -100);
        DUE.is("where", x.where(0, -40, 8), 0);
        joined(x, 999, 100, 999);
        DUE.is("no way from A", x.joins(99, 100), -2);
        DUE.is("a way from A", x.joins(100, 100), 9);
        DUE.is("the first", x.join(0), 100);
        x.pane(0, -100, 0, 50);
        DUE.is("no way to B", x.joins(99, 100), -2);
        x.gone(0, 0);
        joined(x, 999, 2, 999);
        DUE.is("no face any more", x.joins(50, 100), 19);
    }

    private static void latest() {
        GhostPane x = faceAt(500);
        DUE.is("join ahead of all", x.join(0), -1);
        joined(x, 520, 20, 520);
        DUE.is("refused", x.joins(0, 0), -1);
        DUE.is("stays", x.join(0), 520);
        DUE.is("none such", x.joins(39, 20), -2);
        DUE.is("stays", x.join(0), 520);
        DUE.is("stays", x.join(1), -1);
        x.pane(-50, 0, 50, 80);
        DUE.is("stays with another glass", x.join(0), 520);
        joined(x, 1000, 20);
    }
}
