/** Promises 19 to 22: what is held, what clashes, which counts a seat has, and the house. */
public final class HouseTest {
    private static final Due DUE = new Due("HouseTest");

    public static void main(String[] args) {
        held();
        heldTilted();
        clashes();
        has();
        sightOfFeetAndFace();
        counts();
        house();
        DUE.end();
    }

    /** The glass mirrors x alone, the board is level with the floor. */
    private static GhostPane theatre() {
        GhostPane x = new GhostPane();
        x.pane(0, 0, 0, 80);
        x.board(-40, 10, -10, 10);
        x.heights(10, 4, 0);
        x.seat(0, -60, 30);
        return x;
    }

    private static void held() {
        GhostPane x = theatre();
        for (int floor = 0; floor <= 20; floor++) {
            x.heights(floor, 4, 0);
            DUE.is("held, floor " + floor, x.count(0, 5), Math.abs(floor - 10) <= 4 ? 1 : 0);
            x.heights(floor, 0, 0);
            DUE.is("held by no hand, floor " + floor, x.count(0, 5), floor == 10 ? 1 : 0);
        }
        x.heights(10, 4, 0);
        Due.walk(x, "rise 40 in 2;");
        DUE.is("the height of a rise is not asked", x.count(1, 5), 1);
        x.heights(50, 4, 0);
        DUE.is("the height of a rise is not asked", x.count(1, 5), 0);
        x.heights(5, 4, 5);
        DUE.is("lowered with the board", x.count(0, 5), 1);
    }

    /** The first glass of (4, 3) / 5 mirrors by fractions: 10, 0 goes to 2.8, 9.6. */
    private static void heldTilted() {
        GhostPane x = new GhostPane();
        x.pane(0, 0, 40, 30);
        x.board(10, 0, 11, 0);
        DUE.is("mirrored x", x.of(10, 0, 3), 7000);
        DUE.is("mirrored y", x.of(10, 0, 4), 24000);
        x.heights(9, 0, 0);
        DUE.is("9.6 is not 9", x.count(0, 5), 0);
        x.heights(9, 1, 0);
        DUE.is("9.6 is within 1 of 9", x.count(0, 5), 1);
        x.heights(11, 1, 0);
        DUE.is("9.6 is not within 1 of 11", x.count(0, 5), 0);
        x.heights(11, 2, 0);
        DUE.is("9.6 is within 2 of 11", x.count(0, 5), 1);
        x.thing(0, 2, 3, 9, 10);
        DUE.is("2.8, 9.6 is in the box", x.count(0, 6), 1);
        x.thing(0, 3, 4, 9, 10);
        DUE.is("2.8 is not", x.count(0, 6), 0);
        x.thing(0, 2, 3, 8, 9);
        DUE.is("9.6 is not", x.count(0, 6), 0);
    }

    private static void clashes() {
        GhostPane x = theatre();
        x.thing(0, 39, 41, 9, 11);
        x.thing(1, 40, 41, 9, 11);
        x.thing(2, 39, 40, 9, 11);
        x.thing(3, 39, 41, 10, 11);
        x.thing(4, 39, 41, 9, 10);
        x.thing(7, -100, 100, -100, 100);
        DUE.is("in the box, not at its border", x.count(0, 6), 1 | 1 << 7);
        DUE.is("a clash is not had", x.has(0, 0), 0);
        x.gone(2, 0);
        x.gone(2, 7);
        DUE.is("none", x.count(0, 6), 0);
        DUE.is("had", x.has(0, 0), 1);
        Due.walk(x, "rise 1 in 2;");
        DUE.is("the height of a rise counts", x.count(1, 6), 0);
        x.thing(3, 39, 41, 10, 12);
        DUE.is("the height of a rise counts", x.count(1, 6), 1 << 3);
        DUE.is("before it", x.count(0, 6), 0);
        x.heights(10, 10, 10);
        x.thing(5, 39, 41, -1, 1);
        DUE.is("lowered with the board", x.count(0, 6), 1 << 5);
    }

    private static void has() {
        GhostPane x = theatre();
        DUE.is("has", x.has(0, 0), 1);
        DUE.is("no count 1", x.has(0, 1), -1);
        DUE.is("no count -1", x.has(0, -1), -1);
        DUE.is("no seat 1", x.has(1, 0), -1);
        DUE.is("no seat -1", x.has(-1, 0), -1);
        DUE.is("no seat 8", x.has(8, 0), -1);
        Due.walk(x, "light off; stay 1; light on;");
        DUE.is("no light", x.has(0, 0), 0);
        DUE.is("light", x.has(0, 1), 1);
        x.heights(15, 4, 0);
        DUE.is("not held", x.has(0, 1), 0);
        x.heights(14, 4, 0);
        DUE.is("held", x.has(0, 1), 1);
    }

    /** The seat's eye is as far from the glass as the feet: X is half way up between both. */
    private static void sightOfFeetAndFace() {
        GhostPane x = theatre();
        x.seat(0, -40, 30);
        x.pane(0, 0, 0, 20);
        DUE.is("feet are seen by the glass's end", x.sees(0, -40, 10), 1);
        DUE.is("the face is not, 8 higher", x.sees(0, -40, 18), 0);
        DUE.is("so it has not", x.has(0, 0), 0);
        x.pane(0, 0, 0, 23);
        DUE.is("not the face yet", x.has(0, 0), 0);
        x.pane(0, 0, 0, 24);
        DUE.is("feet and face", x.has(0, 0), 1);
        x.pane(0, 21, 0, 80);
        DUE.is("the face alone", x.sees(0, -40, 18), 1);
        DUE.is("the feet are not seen", x.has(0, 0), 0);
        x.pane(0, 20, 0, 80);
        DUE.is("feet and face", x.has(0, 0), 1);
        Due.walk(x, "rise 4 in 2;");
        x.pane(0, 20, 0, 25);
        DUE.is("a face that rises above", x.has(0, 1), 0);
        x.pane(0, 20, 0, 26);
        DUE.is("a face that rises to the edge", x.has(0, 1), 1);
        x.pane(0, 21, 0, 26);
        DUE.is("before the rise", x.has(0, 0), 0);
        DUE.is("in the rise", x.has(0, 1), 1);
        DUE.is("after the rise", x.has(0, 2), 0);
        x.wall(0, -40, 15, -35, 15, false);
        DUE.is("a wall at a side of the way", x.has(0, 1), 0);
    }

    private static void counts() {
        GhostPane x = theatre();
        Due.walk(x, "go to 1000 in 3; stay 10; light off; stay 5; light on; at 0; stay 1;");
        DUE.is("counts", x.counts(0), 3 + 10 + 2);
        int sum = 0;
        for (int c = 0; c <= 19; c++) {
            sum += x.has(0, c);
        }
        DUE.is("counts one by one", sum, 15);
        x.pane(0, 0, 0, 20);
        DUE.is("those near the glass", x.counts(0), 1 + 9);
        DUE.is("no seat", x.counts(1), -1);
        DUE.is("no seat", x.counts(-1), -1);
        DUE.is("no seat", x.counts(8), -1);
        x.seat(7, 60, 30);
        DUE.is("a seat on the other side", x.counts(7), 0);
        x.gone(0, 0);
        DUE.is("a seat that is gone", x.counts(0), -1);
    }

    private static void house() {
        GhostPane x = theatre();
        Due.walk(x, "go to 1000 in 3;");
        DUE.is("one seat", x.house(), 4);
        for (int s = 1; s < 8; s++) {
            x.seat(s, -60, 30 + s);
            DUE.is("seats", x.house(), 4 * (s + 1));
        }
        x.seat(0, 60, 30);
        DUE.is("one on the other side", x.house(), 28);
        x.gone(0, 7);
        DUE.is("one gone", x.house(), 24);
        Due.walk(x, "repeat 12 [ go to 1000 in 10; go to 0 in 10; ];");
        DUE.is("all counts", x.house(), 6 * 241);
        x.wall(11, -1, 0, -1, 80, false);
        DUE.is("a wall ahead of the glass", x.house(), 0);
    }
}
