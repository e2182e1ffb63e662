/** Edges of promises 1 to 10: a new object, the tape, and what the room takes. */
final class RoomEdges {
    private static final int[] LAST = {-100, 100};
    private static final int[] BEYOND = {-101, 101, Integer.MIN_VALUE, Integer.MAX_VALUE};
    private static final int BLANKS = 0x20202020;

    private RoomEdges() {
    }

    static void rows(Edge edge) {
        newObject(edge);
        firstHeights(edge);
        twoObjects(edge);
        feed(edge);
        feedOrder(edge);
        end(edge);
        pane(edge);
        board(edge);
        heights(edge);
        seat(edge);
        wall(edge);
        wallTaken(edge);
        thing(edge);
        thingTaken(edge);
        gone(edge);
        goneEach(edge);
    }

    private static void newObject(Edge edge) {
        edge.about(1, "A new object");
        GhostPane x = new GhostPane();
        edge.is("no SEATS", x.all(0), 0);
        edge.is("no WALLS", x.all(1), 0);
        edge.is("no THINGS", x.all(2), 0);
        edge.is("an empty BOOK", x.all(3), 0);
        edge.is("no GRID", x.all(4), 0);
        edge.is("the last count is 0", x.all(5), 0);
        for (int k = 0; k < 12; k++) {
            edge.is("no SEAT " + k, x.gone(0, k), false);
            edge.is("no WALL " + k, x.gone(1, k), false);
            edge.is("no THING " + k, x.gone(2, k), false);
        }
        edge.is("an empty tape", x.end(1), false);
        edge.is("no FAULT", x.fault(0), 0);
        edge.is("no FAULT's place", x.fault(1), -1);
        edge.is("no JOIN", x.join(0), -1);
        edge.is("A is -50, 0", x.of(-50, 0, 0) == 0 && x.of(-50, 0, 1) == 0, true);
        edge.is("B is 50, 80", x.of(50, 80, 0) == x.of(0, 0, 2) && x.of(50, 80, 1) == 0, true);
        edge.is("L", x.of(0, 0, 2), 16400);
        int[] count0 = {0, 0, 1, -60, -40, 1, 0};
        for (int what = 0; what <= 6; what++) {
            edge.is("count 0, " + what, x.count(0, what), count0[what]);
            edge.is("count 0 alone, " + what, x.count(1, what), -1000);
        }
        Due.walk(x, "at 1000;");
        edge.is("D is at x 60", x.count(0, 3), 60);
        edge.is("D is at y -40", x.count(0, 4), -40);
    }

    /** The floor is at 0, HAND is 4 and DEEP is 0 until told. */
    private static void firstHeights(Edge edge) {
        GhostPane x = new GhostPane();
        x.pane(0, -100, 0, 100);
        for (int y = -6; y <= 6; y++) {
            x.board(-40, y, 40, y);
            edge.is("DEEP 0, FEET told at " + y, x.count(0, 4), y);
            edge.is("floor 0, HAND 4, FEET at " + y, x.count(0, 5), y >= -4 && y <= 4 ? 1 : 0);
        }
    }

    private static void twoObjects(Edge edge) {
        GhostPane one = new GhostPane();
        GhostPane other = Stage.full();
        edge.is("what is told to another is not told to it", other.all(0), 4);
        edge.same("a new one", Readout.of(one), Readout.of(new GhostPane()));
    }

    private static int feedBlanks(GhostPane x) {
        return x.feed(BLANKS, BLANKS, BLANKS, BLANKS, BLANKS);
    }

    private static void feed(Edge edge) {
        edge.about(2, "feed");
        GhostPane x = new GhostPane();
        for (int k = 1; k <= 30; k++) {
            edge.is("feed " + k, feedBlanks(x), 20 * k);
        }
        edge.is("600 are full", feedBlanks(x), -1);
        edge.is("and still 600", x.end(600), true);
        edge.is("no text but blanks", x.walk(), 0);
        edge.is("an empty tape again", feedBlanks(x), 20);
        for (int bytes = 579; bytes <= 580; bytes++) {
            GhostPane y = Stage.taped(bytes);
            edge.is("behind " + bytes, feedBlanks(y), bytes + 20);
        }
        for (int bytes : new int[] {581, 590, 599, 600}) {
            edge.refuses("more than 600 behind " + bytes, () -> Stage.taped(bytes), x0 -> x0.feed(0, 1, 2, 3, 4), -1);
        }
    }

    /** Each of the twenty bytes is told by the place of the FAULT that it makes among blanks. */
    private static void feedOrder(Edge edge) {
        for (int place = 0; place < 20; place++) {
            int[] five = {BLANKS, BLANKS, BLANKS, BLANKS, BLANKS};
            int shift = 8 * (3 - place % 4);
            for (int sign : new int[] {'x', 0, 255, 128}) {
                five[place / 4] = BLANKS & ~(255 << shift) | sign << shift;
                GhostPane x = new GhostPane();
                feedBlanks(x);
                x.end(3);
                edge.is("twenty behind three", x.feed(five[0], five[1], five[2], five[3], five[4]), 23);
                edge.is("byte " + sign + " stops the text", x.walk(), -1);
                edge.is("byte " + place + ", the highest first", x.fault(1), 3 + place);
            }
        }
    }

    private static void end(Edge edge) {
        edge.about(3, "end");
        GhostPane x = new GhostPane();
        edge.is("0 of none", x.end(0), true);
        edge.is("1 of none", x.end(1), false);
        feedBlanks(x);
        edge.is("21 of 20", x.end(21), false);
        edge.is("20 of 20", x.end(20), true);
        edge.is("20 of 20 again", x.end(20), true);
        edge.is("19 of 20", x.end(19), true);
        edge.is("20 of 19", x.end(20), false);
        edge.is("feed behind the 19", feedBlanks(x), 39);
        edge.is("0 of 39", x.end(0), true);
        edge.is("1 of none", x.end(1), false);
        Due.type(x, "stay 12;");
        x.end(6);
        x.feed(0x3b202020, BLANKS, BLANKS, BLANKS, BLANKS);
        edge.is("the first bytes alone: stay 1;", x.walk(), 1);
        edge.is("after walk() none is there", x.end(1), false);
        for (int n : new int[] {-1, -20, Integer.MIN_VALUE, 601, Integer.MAX_VALUE}) {
            edge.denies("end(" + n + ")", y -> y.end(n));
        }
        edge.denies("8 of 7", Stage::full, y -> y.end(8));
        edge.denies("601 of 600", () -> Stage.taped(600), y -> y.end(601));
        edge.is("600 of 600", Stage.taped(600).end(600), true);
    }

    private static int[] with(int[] base, int place, int value) {
        int[] all = base.clone();
        all[place] = value;
        return all;
    }

    private static boolean paneOf(GhostPane x, int[] v) {
        return x.pane(v[0], v[1], v[2], v[3]);
    }

    private static void pane(Edge edge) {
        edge.about(4, "pane");
        String[] names = {"ax", "ay", "bx", "by"};
        int[] base = {1, 2, 3, 5};
        for (int p = 0; p < 4; p++) {
            for (int value : LAST) {
                int[] v = with(base, p, value);
                GhostPane x = new GhostPane();
                edge.is(names[p] + " " + value, paneOf(x, v), true);
                long dx = v[2] - v[0];
                long dy = v[3] - v[1];
                edge.is("its A", x.of(v[0], v[1], 0) == 0 && x.of(v[0], v[1], 1) == 0, true);
                edge.is("its B", x.of(v[2], v[3], 0) == dx * dx + dy * dy && x.of(v[2], v[3], 1) == 0, true);
                edge.is("its L", x.of(0, 0, 2), dx * dx + dy * dy);
            }
            for (int value : BEYOND) {
                int[] v = with(base, p, value);
                edge.denies(names[p] + " " + value, x -> paneOf(x, v));
            }
        }
        edge.denies("A and B alike", x -> x.pane(7, 9, 7, 9));
        edge.denies("A and B alike at the corner", x -> x.pane(-100, 100, -100, 100));
        edge.is("unlike in x alone", new GhostPane().pane(7, 9, 8, 9), true);
        edge.is("unlike in y alone", new GhostPane().pane(7, 9, 7, 8), true);
        edge.is("the longest one", new GhostPane().pane(-100, 100, 100, -100), true);
    }

    private static boolean boardOf(GhostPane x, int[] v) {
        return x.board(v[0], v[1], v[2], v[3]);
    }

    private static void board(Edge edge) {
        edge.about(5, "board");
        String[] names = {"cx", "cy", "dx", "dy"};
        int[] base = {1, 2, 3, 5};
        for (int p = 0; p < 4; p++) {
            for (int value : LAST) {
                int[] v = with(base, p, value);
                GhostPane x = new GhostPane();
                Due.walk(x, "go to 1000 in 1;");
                edge.is(names[p] + " " + value, boardOf(x, v), true);
                edge.is("its C", x.count(0, 3) == v[0] && x.count(0, 4) == v[1], true);
                edge.is("its D", x.count(1, 3) == v[2] && x.count(1, 4) == v[3], true);
            }
            for (int value : BEYOND) {
                int[] v = with(base, p, value);
                edge.denies(names[p] + " " + value, x -> boardOf(x, v));
            }
        }
        edge.denies("C and D alike", x -> x.board(7, 9, 7, 9));
        edge.is("unlike in x alone", new GhostPane().board(7, 9, 8, 9), true);
        edge.is("unlike in y alone", new GhostPane().board(7, 9, 7, 8), true);
    }

    private static void heights(Edge edge) {
        edge.about(6, "heights");
        GhostPane x = new GhostPane();
        x.pane(0, -100, 0, 100);
        x.board(-40, -100, 40, -100);
        edge.is("floor -100, HAND 0, DEEP 0", x.heights(-100, 0, 0), true);
        edge.is("taken: HELD", x.count(0, 5), 1);
        edge.is("floor -99, HAND 0", x.heights(-99, 0, 0), true);
        edge.is("taken: not HELD", x.count(0, 5), 0);
        edge.is("DEEP 60", x.heights(-100, 50, 60), true);
        edge.is("lowered below the PLACES", x.count(0, 4), -160);
        edge.is("60 below the floor, HAND 50", x.count(0, 5), 0);
        edge.is("DEEP 50", x.heights(-100, 50, 50), true);
        edge.is("50 below the floor, HAND 50", x.count(0, 5), 1);
        x.board(-40, 100, 40, 100);
        edge.is("floor 100", x.heights(100, 0, 0), true);
        edge.is("taken: HELD", x.count(0, 5), 1);
        for (int bad : BEYOND) {
            edge.denies("floor " + bad, y -> y.heights(bad, 5, 5));
        }
        for (int bad : new int[] {-1, 51, Integer.MIN_VALUE, Integer.MAX_VALUE}) {
            edge.denies("HAND " + bad, y -> y.heights(5, bad, 5));
        }
        for (int bad : new int[] {-1, 61, Integer.MIN_VALUE, Integer.MAX_VALUE}) {
            edge.denies("DEEP " + bad, y -> y.heights(5, 5, bad));
        }
    }

    private static void seat(Edge edge) {
        edge.about(7, "seat");
        for (int s : new int[] {0, 7}) {
            for (int value : LAST) {
                GhostPane x = new GhostPane();
                edge.is("SEAT " + s + " at x " + value, x.seat(s, value, 1), true);
                edge.is("SEAT " + s + " at y " + value, x.seat(s, 1, value), true);
                edge.is("told twice it is one", x.all(0), 1);
                x.pane(0, -100, 0, 100);
                edge.is("its eye is where it was told last", x.where(s, 1, value), value == 100 ? 1000 : 0);
            }
        }
        for (int s : new int[] {-1, 8, Integer.MIN_VALUE, Integer.MAX_VALUE}) {
            edge.denies("SEAT " + s, x -> x.seat(s, 1, 1));
        }
        for (int bad : BEYOND) {
            edge.denies("x " + bad, x -> x.seat(0, bad, 1));
            edge.denies("y " + bad, x -> x.seat(7, 1, bad));
        }
    }

    private static boolean wallOf(GhostPane x, int w, int[] v) {
        return x.wall(w, v[0], v[1], v[2], v[3], false);
    }

    private static void wall(Edge edge) {
        edge.about(8, "wall");
        String[] names = {"ax", "ay", "bx", "by"};
        int[] base = {1, 2, 3, 5};
        for (int p = 0; p < 4; p++) {
            for (int value : LAST) {
                int[] v = with(base, p, value);
                edge.is(names[p] + " " + value, wallOf(new GhostPane(), 0, v), true);
                edge.is(names[p] + " " + value, wallOf(new GhostPane(), 11, v), true);
            }
            for (int value : BEYOND) {
                int[] v = with(base, p, value);
                edge.denies(names[p] + " " + value, x -> wallOf(x, 0, v));
                edge.denies(names[p] + " " + value, x -> wallOf(x, 11, v));
            }
        }
        for (int w : new int[] {-1, 12, Integer.MIN_VALUE, Integer.MAX_VALUE}) {
            edge.denies("WALL " + w, x -> x.wall(w, 1, 2, 3, 4, true));
        }
        edge.denies("from a PLACE to the same", x -> x.wall(0, 7, 9, 7, 9, true));
        edge.is("unlike in x alone", new GhostPane().wall(3, 7, 9, 8, 9, true), true);
        edge.is("unlike in y alone", new GhostPane().wall(3, 7, 9, 7, 8, false), true);
    }

    /** The line from the eye -60, 30 to X 0, 20 is at y 25 where x is -30. */
    private static void wallTaken(Edge edge) {
        GhostPane x = Stage.upright();
        for (int w : new int[] {0, 11}) {
            x.wall(w, -30, 25, -30, 60, false);
            edge.is("WALL " + w + " is taken", x.blocks(0, -60, 10, 0), 1 << w);
            x.wall(w, -30, 26, -30, 60, false);
            edge.is("WALL " + w + " told again", x.blocks(0, -60, 10, 0), 0);
            edge.is("it is one", x.all(1), 1);
            x.wall(w, -30, 60, -30, 26, true);
            x.heights(0, 4, 1);
            edge.is("of THE PIT: lowered", x.blocks(0, -60, 10, 0), 1 << w);
            x.wall(w, -30, 60, -30, 26, false);
            edge.is("of THE PIT no more", x.blocks(0, -60, 10, 0), 0);
            x.heights(0, 4, 0);
            x.gone(1, w);
        }
    }

    private static boolean thingOf(GhostPane x, int t, int[] v) {
        return x.thing(t, v[0], v[1], v[2], v[3]);
    }

    private static void thing(Edge edge) {
        edge.about(9, "thing");
        String[] names = {"fromX", "toX", "fromY", "toY"};
        int[] base = {-3, 3, -5, 5};
        for (int p = 0; p < 4; p++) {
            int last = p % 2 == 0 ? -100 : 100;
            edge.is(names[p] + " " + last, thingOf(new GhostPane(), 0, with(base, p, last)), true);
            edge.is(names[p] + " " + last, thingOf(new GhostPane(), 7, with(base, p, last)), true);
            for (int value : BEYOND) {
                int[] v = with(base, p, value);
                edge.denies(names[p] + " " + value, x -> thingOf(x, 0, v));
                edge.denies(names[p] + " " + value, x -> thingOf(x, 7, v));
            }
        }
        for (int t : new int[] {-1, 8, Integer.MIN_VALUE, Integer.MAX_VALUE}) {
            edge.denies("THING " + t, x -> x.thing(t, 1, 2, 3, 4));
        }
        edge.denies("x from a number to the same", x -> x.thing(0, 5, 5, 0, 9));
        edge.denies("x from a number to a lesser one", x -> x.thing(0, 6, 5, 0, 9));
        edge.denies("y from a number to the same", x -> x.thing(0, 0, 9, 5, 5));
        edge.denies("y from a number to a lesser one", x -> x.thing(0, 0, 9, 6, 5));
        edge.is("both to the next number", new GhostPane().thing(0, 5, 6, 5, 6), true);
        edge.is("at the corner", new GhostPane().thing(7, 99, 100, -100, -99), true);
    }

    private static void thingTaken(Edge edge) {
        GhostPane x = Stage.theatre();
        for (int t : new int[] {0, 7}) {
            x.thing(t, 39, 41, 9, 11);
            edge.is("THING " + t + " is taken", x.count(0, 6), 1 << t);
            x.thing(t, 41, 43, 9, 11);
            edge.is("THING " + t + " told again", x.count(0, 6), 0);
            edge.is("it is one", x.all(2), 1);
            x.gone(2, t);
        }
    }

    private static void gone(Edge edge) {
        edge.about(10, "gone");
        for (int what : new int[] {-1, 3, Integer.MIN_VALUE, Integer.MAX_VALUE}) {
            edge.denies("what " + what, x -> x.gone(what, 0));
        }
        for (int what = 0; what <= 2; what++) {
            int kind = what;
            for (int k : new int[] {-1, 12, Integer.MIN_VALUE, Integer.MAX_VALUE}) {
                edge.denies("gone(" + what + ", " + k + ")", x -> x.gone(kind, k));
            }
            edge.denies("none such", x -> x.gone(kind, 5));
            edge.denies("none any more", RoomEdges::without7, x -> x.gone(kind, 7));
        }
        edge.denies("SEAT 11, with a WALL 11", x -> x.gone(0, 11));
        edge.denies("THING 11, with a WALL 11", x -> x.gone(2, 11));
        edge.denies("SEAT 8", x -> x.gone(0, 8));
        edge.denies("THING 8", x -> x.gone(2, 8));
    }

    private static GhostPane without7() {
        GhostPane x = Stage.full();
        x.gone(0, 7);
        x.gone(2, 7);
        return x;
    }

    private static void goneEach(Edge edge) {
        int[] lastOf = {7, 11, 7};
        for (int what = 0; what <= 2; what++) {
            for (int k : new int[] {0, lastOf[what]}) {
                GhostPane x = Stage.full();
                int[] many = {4, 3, 2};
                edge.is("gone(" + what + ", " + k + ")", x.gone(what, k), true);
                many[what]--;
                for (int other = 0; other <= 2; other++) {
                    edge.is("those left of " + other, x.all(other), many[other]);
                }
                edge.is("twice", x.gone(what, k), false);
            }
        }
        GhostPane x = Stage.upright();
        x.gone(0, 0);
        edge.is("a SEAT that is none", x.sees(0, -60, 10), -1);
        edge.is("it can be told again", x.seat(0, -60, 30), true);
        edge.is("and sees", x.sees(0, -60, 10), 1);
        x.wall(0, -30, 25, -30, 60, false);
        edge.is("a WALL blocks", x.sees(0, -60, 10), 0);
        x.gone(1, 0);
        edge.is("a WALL that is none does not", x.sees(0, -60, 10), 1);
    }
}
