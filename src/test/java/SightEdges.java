/** Edges of promises 11 to 16: what is seen, where, what blocks it and what shows. */
final class SightEdges {
    private static final long NO_PLACE = -100000000L;
    private static final int[] BEYOND = {-201, 201, Integer.MIN_VALUE, Integer.MAX_VALUE};
    private static final int[] NO_SEAT = {-1, 3, 8, Integer.MIN_VALUE, Integer.MAX_VALUE};

    private SightEdges() {
    }

    static void rows(Edge edge) {
        of(edge);
        ofFar(edge);
        sees(edge);
        seesOffs(edge);
        seesEnds(edge);
        seesBlocked(edge);
        where(edge);
        whereFloor(edge);
        blocks(edge);
        blocksBits(edge);
        blocksAlong(edge);
        blocksFromRight(edge);
        blocksUpright(edge);
        shows(edge);
        showsMiddle(edge);
        showsMiddleAlong(edge);
        showsItself(edge);
        black(edge);
    }

    private static void of(Edge edge) {
        edge.about(11, "of");
        for (int what = 0; what <= 4; what++) {
            int kind = what;
            for (int bad : BEYOND) {
                edge.refuses("x " + bad + ", what " + what, x -> x.of(bad, 0, kind), NO_PLACE);
                edge.refuses("y " + bad + ", what " + what, x -> x.of(0, bad, kind), NO_PLACE);
            }
        }
        for (int what : new int[] {-1, 5, Integer.MIN_VALUE, Integer.MAX_VALUE}) {
            edge.refuses("what " + what, x -> x.of(0, 0, what), NO_PLACE);
        }
        edge.leaves("asked alone", x -> x.of(3, 4, 3));
        GhostPane x = Stage.upright();
        long[] right = {0, -16000, 6400, -1280000, 0};
        long[] left = {0, 16000, 6400, 1280000, 0};
        long[] up = {16000, 0, 6400, 0, 1280000};
        long[] down = {-16000, 0, 6400, 0, -1280000};
        for (int what = 0; what <= 4; what++) {
            edge.is("x 200, what " + what, x.of(200, 0, what), right[what]);
            edge.is("x -200, what " + what, x.of(-200, 0, what), left[what]);
            edge.is("y 200, what " + what, x.of(0, 200, what), up[what]);
            edge.is("y -200, what " + what, x.of(0, -200, what), down[what]);
        }
    }

    /** The longest glass, and the shortest: MIRRORED L times is whole and exact. */
    private static void ofFar(Edge edge) {
        GhostPane x = new GhostPane();
        x.pane(-100, -100, 100, 100);
        edge.is("ALONG, the greatest", x.of(200, 200, 0), 120000);
        edge.is("ALONG, the least", x.of(-200, -200, 0), -40000);
        edge.is("OFF, the greatest", x.of(-200, 200, 1), 80000);
        edge.is("OFF, the least", x.of(200, -200, 1), -80000);
        edge.is("L, the greatest", x.of(200, -200, 2), 80000);
        edge.is("MIRRORED x, the least", x.of(200, -200, 3), -16000000);
        edge.is("MIRRORED y, the greatest", x.of(200, -200, 4), 16000000);
        x.pane(100, 100, 100, 99);
        edge.is("L, the least", x.of(0, 0, 2), 1);
        edge.is("MIRRORED x", x.of(-200, 0, 3), 400);
        edge.is("MIRRORED y", x.of(-200, 0, 4), 0);
        x.pane(10, 20, 14, 23);
        edge.is("MIRRORED x by a tilted glass", x.of(12, 30, 3), 504);
        edge.is("MIRRORED y by a tilted glass", x.of(12, 30, 4), 478);
    }

    private static void sees(Edge edge) {
        edge.about(12, "sees");
        for (int bad : BEYOND) {
            edge.refuses("x " + bad, x -> x.sees(0, bad, 0), -1);
            edge.refuses("y " + bad, x -> x.sees(0, 0, bad), -1);
        }
        for (int s : NO_SEAT) {
            edge.refuses("SEAT " + s, x -> x.sees(s, -40, 10), -1);
        }
        edge.leaves("asked alone", x -> x.sees(0, -40, 10));
        GhostPane x = Stage.upright();
        x.seat(7, -60, 30);
        edge.is("SEAT 0", x.sees(0, -60, 10), 1);
        edge.is("SEAT 7", x.sees(7, -60, 10), 1);
        edge.is("x -200", x.sees(0, -200, 30), 1);
        edge.is("x 200, behind the glass", x.sees(0, 200, 30), 0);
        edge.is("y 200", x.sees(0, -200, 200), 1);
        edge.is("y -200, below the glass", x.sees(0, -60, -200), 0);
        x.gone(0, 0);
        edge.is("a SEAT that is none any more", x.sees(0, -60, 10), -1);
    }

    private static void seesOffs(Edge edge) {
        GhostPane x = Stage.upright();
        x.seat(1, 0, 30);
        x.seat(2, 60, 30);
        x.seat(3, -1, 30);
        x.seat(4, 1, 30);
        edge.is("both OFFS above 0, the PLACE's 1 away", x.sees(0, -1, 30), 1);
        edge.is("the PLACE's OFF is 0", x.sees(0, 0, 30), 0);
        edge.is("the PLACE's OFF is below 0", x.sees(0, 1, 30), 0);
        edge.is("both OFFS below 0, the PLACE's 1 away", x.sees(2, 1, 30), 1);
        edge.is("the PLACE's OFF is 0, the eye's below", x.sees(2, 0, 30), 0);
        edge.is("the PLACE's OFF is above 0, the eye's below", x.sees(2, -1, 30), 0);
        edge.is("the eye's OFF is 0", x.sees(1, -60, 30), 0);
        edge.is("the eye's OFF is 0, the PLACE's below", x.sees(1, 60, 30), 0);
        edge.is("both OFFS are 0", x.sees(1, 0, 40), 0);
        edge.is("the eye's OFF 1 away", x.sees(3, -60, 30), 1);
        edge.is("the eye's OFF 1 away, below", x.sees(4, 60, 30), 1);
        edge.is("1 away on either side", x.sees(3, 1, 30), 0);
    }

    private static void seesEnds(Edge edge) {
        GhostPane x = Stage.upright();
        edge.is("X at A", x.sees(0, -60, -30), 1);
        edge.is("X half below A", x.sees(0, -60, -31), 0);
        edge.is("X at B", x.sees(0, -60, 130), 1);
        edge.is("X half above B", x.sees(0, -60, 131), 0);
        x.seat(2, 60, 30);
        edge.is("X at A, OFFS below", x.sees(2, 60, -30), 1);
        edge.is("X half below A, OFFS below", x.sees(2, 60, -31), 0);
        edge.is("X at B, OFFS below", x.sees(2, 60, 130), 1);
        edge.is("X half above B, OFFS below", x.sees(2, 60, 131), 0);
    }

    /** The line from the eye -60, 30 goes to X 0, 20, and on to -60, 10. */
    private static int seenWith(int ax, int ay, int bx, int by) {
        GhostPane x = Stage.upright();
        x.wall(5, ax, ay, bx, by, false);
        return x.sees(0, -60, 10);
    }

    private static void seesBlocked(Edge edge) {
        edge.is("a WALL across the line to X", seenWith(-30, 60, -30, 20), 0);
        edge.is("its end on the line to X", seenWith(-30, 60, -30, 25), 0);
        edge.is("its end ahead of the line to X", seenWith(-30, 60, -30, 26), 1);
        edge.is("a WALL across the line from X", seenWith(-30, -60, -30, 20), 0);
        edge.is("its end on the line from X", seenWith(-30, -60, -30, 15), 0);
        edge.is("its end ahead of the line from X", seenWith(-30, -60, -30, 14), 1);
        edge.is("at the eye alone", seenWith(-60, 30, -60, 60), 1);
        edge.is("through the eye", seenWith(-60, 20, -60, 60), 1);
        edge.is("at X alone", seenWith(0, 20, 50, 20), 1);
        edge.is("the glass's own way", seenWith(0, -100, 0, 100), 1);
        edge.is("at the PLACE alone", seenWith(-60, 10, -60, -60), 1);
        edge.is("through the PLACE", seenWith(-60, 15, -60, -60), 1);
        edge.is("between both lines", seenWith(-60, 20, -1, 20), 1);
        edge.is("its end on the line to X, told the other way round", seenWith(-30, 25, -30, 60), 0);
        edge.is("its end on the line to X, from below", seenWith(-30, 25, -30, 16), 0);
        edge.is("the same, told the other way round", seenWith(-30, 16, -30, 25), 0);
        edge.is("its end on the line from X, told the other way round", seenWith(-30, 15, -30, -60), 0);
        edge.is("its end on the line from X, from above", seenWith(-30, 15, -30, 24), 0);
        edge.is("the same, told the other way round", seenWith(-30, 24, -30, 15), 0);
        edge.is("on the line's way, behind the eye", seenWith(-72, 32, -90, 90), 1);
        edge.is("on the line's way, behind X", seenWith(12, 18, 90, 90), 1);
    }

    private static void where(Edge edge) {
        edge.about(13, "where");
        for (int bad : BEYOND) {
            edge.refuses("x " + bad, x -> x.where(0, bad, 10), -1);
            edge.refuses("y " + bad, x -> x.where(0, -40, bad), -1);
        }
        for (int s : NO_SEAT) {
            edge.refuses("SEAT " + s, x -> x.where(s, -40, 10), -1);
        }
        edge.leaves("asked alone", x -> x.where(0, -40, 10));
        GhostPane x = Stage.upright();
        x.seat(1, 0, 30);
        x.seat(2, 60, 30);
        edge.is("X at A", x.where(0, -60, -30), 0);
        edge.is("no X, half below A", x.where(0, -60, -31), -1);
        edge.is("X at B", x.where(0, -60, 130), 1000);
        edge.is("no X, half above B", x.where(0, -60, 131), -1);
        edge.is("X at A, OFFS below", x.where(2, 60, -30), 0);
        edge.is("no X, OFFS below", x.where(2, 60, -31), -1);
        edge.is("X at B, OFFS below", x.where(2, 60, 130), 1000);
        edge.is("no X, OFFS below", x.where(2, 60, 131), -1);
        edge.is("no X with OFFS on either side", x.where(0, 60, 10), -1);
        edge.is("no X on the glass", x.where(0, 0, 10), -1);
        edge.is("no X for an eye on the glass", x.where(1, -60, 10), -1);
        edge.is("no X with both on the glass", x.where(1, 0, 10), -1);
        edge.is("x -200", x.where(0, -200, 30), 375);
        edge.is("y 200", x.where(0, -200, 200), 865);
        x.wall(0, -30, -60, -30, 60, false);
        edge.is("not seen", x.sees(0, -60, 10), 0);
        edge.is("whatever blocks it", x.where(0, -60, 10), 250);
        x.gone(0, 0);
        edge.is("a SEAT that is none any more", x.where(0, -60, 10), -1);
    }

    private static void whereFloor(Edge edge) {
        GhostPane x = Stage.upright();
        edge.is("187.5", x.where(0, -60, 0), 187);
        edge.is("181.25", x.where(0, -60, -1), 181);
        edge.is("993.75, next to B", x.where(0, -60, 129), 993);
        edge.is("6.25, next to A", x.where(0, -60, -29), 6);
        x.pane(0, 80, 0, 0);
        edge.is("from B's side: 812.5", x.where(0, -60, 0), 812);
    }

    private static void blocks(Edge edge) {
        edge.about(14, "blocks");
        for (int what : new int[] {-1, 2, Integer.MIN_VALUE, Integer.MAX_VALUE}) {
            edge.refuses("what " + what, x -> x.blocks(0, -40, 10, what), -1);
        }
        for (int what = 0; what <= 1; what++) {
            int kind = what;
            for (int bad : BEYOND) {
                edge.refuses("x " + bad, x -> x.blocks(0, bad, 10, kind), -1);
                edge.refuses("y " + bad, x -> x.blocks(0, -40, bad, kind), -1);
            }
            for (int s : NO_SEAT) {
                edge.refuses("SEAT " + s, x -> x.blocks(s, -40, 10, kind), -1);
            }
            edge.leaves("asked alone", x -> x.blocks(0, -40, 10, kind));
            GhostPane x = Stage.upright();
            x.seat(1, 0, 30);
            edge.is("without a WALL", x.blocks(0, -60, 10, what), 0);
            edge.is("X at A", x.blocks(0, -60, -30, what), 0);
            edge.is("without an X, below A", x.blocks(0, -60, -31, what), -1);
            edge.is("X at B", x.blocks(0, -60, 130, what), 0);
            edge.is("without an X, above B", x.blocks(0, -60, 131, what), -1);
            edge.is("without an X, OFFS on either side", x.blocks(0, 60, 10, what), -1);
            edge.is("without an X, on the glass", x.blocks(0, 0, 10, what), -1);
            edge.is("without an X, an eye on the glass", x.blocks(1, -60, 10, what), -1);
            edge.is("x -200, y 200", x.blocks(0, -200, 200, what), 0);
        }
    }

    private static void blocksBits(Edge edge) {
        GhostPane x = Stage.upright();
        for (int w = 0; w < 12; w++) {
            x.wall(w, -59 + w, 100, -59 + w, w % 2 == 0 ? 20 : -100, false);
        }
        edge.is("the line to X: all twelve", x.blocks(0, -60, 10, 0), 0xfff);
        edge.is("the line from X: those with odd numbers", x.blocks(0, -60, 10, 1), 0xaaa);
        x.gone(1, 11);
        edge.is("one that is none any more", x.blocks(0, -60, 10, 0), 0x7ff);
        edge.is("one that is none any more", x.blocks(0, -60, 10, 1), 0x2aa);
    }

    private static int alongToX(int ax, int ay, int bx, int by) {
        GhostPane x = Stage.upright();
        x.wall(0, ax, ay, bx, by, false);
        return x.blocks(0, -60, 10, 0);
    }

    private static int alongFromX(int ax, int ay, int bx, int by) {
        GhostPane x = Stage.upright();
        x.wall(0, ax, ay, bx, by, false);
        return x.blocks(0, -60, 10, 1);
    }

    /** WALLS that go the line's own way. */
    private static void blocksAlong(Edge edge) {
        edge.is("behind the eye, up to it", alongToX(-72, 32, -60, 30), 0);
        edge.is("past the eye", alongToX(-72, 32, -54, 29), 1);
        edge.is("from the eye on", alongToX(-60, 30, -54, 29), 1);
        edge.is("up to X", alongToX(-6, 21, 0, 20), 1);
        edge.is("from X on", alongToX(0, 20, 6, 19), 0);
        edge.is("past X", alongToX(6, 19, -6, 21), 1);
        edge.is("all of the line", alongToX(-60, 30, 0, 20), 1);
        edge.is("more than the line", alongToX(60, 10, -90, 35), 1);
        edge.is("behind X", alongToX(6, 19, 12, 18), 0);
        edge.is("from X to the PLACE: beyond it", alongFromX(-72, 8, -60, 10), 0);
        edge.is("from X to the PLACE: past it", alongFromX(-72, 8, -54, 11), 1);
        edge.is("from X to the PLACE: all of it", alongFromX(0, 20, -60, 10), 1);
        edge.is("from X to the PLACE: behind X", alongFromX(0, 20, 6, 21), 0);
        edge.is("the line to X by that", alongToX(0, 20, -60, 10), 0);
    }

    private static int fromRight(int what, int ax, int ay, int bx, int by) {
        GhostPane x = Stage.upright();
        x.seat(7, 60, 30);
        x.wall(0, ax, ay, bx, by, false);
        return x.blocks(7, 60, 10, what);
    }

    /** From 60, 30 to X 0, 20 and on to 60, 10. */
    private static void blocksFromRight(Edge edge) {
        edge.is("behind the eye at the right, up to it", fromRight(0, 72, 32, 60, 30), 0);
        edge.is("past the eye at the right", fromRight(0, 72, 32, 54, 29), 1);
        edge.is("from the eye at the right on", fromRight(0, 54, 29, 60, 30), 1);
        edge.is("from the right up to X", fromRight(0, 6, 21, 0, 20), 1);
        edge.is("from the right, from X on", fromRight(0, 0, 20, -6, 19), 0);
        edge.is("from the right past X", fromRight(0, -6, 19, 6, 21), 1);
        edge.is("from the right, behind X", fromRight(0, -6, 19, -12, 18), 0);
        edge.is("from the right, all of it", fromRight(0, 60, 30, 0, 20), 1);
        edge.is("to the right: beyond the PLACE", fromRight(1, 60, 10, 72, 8), 0);
        edge.is("to the right: past the PLACE", fromRight(1, 72, 8, 54, 11), 1);
        edge.is("to the right: behind X", fromRight(1, -6, 21, 0, 20), 0);
        edge.is("to the right: from X on", fromRight(1, 0, 20, 6, 19), 1);
        edge.is("an end on the way at the right", fromRight(0, 30, 25, 30, 90), 1);
        edge.is("an end ahead of the way at the right", fromRight(0, 30, 26, 30, 90), 0);
    }

    /** A level glass: from 10, 50 straight down to X 10, 0, and up to 10, 40. */
    private static int upright(int ax, int ay, int bx, int by) {
        GhostPane x = new GhostPane();
        x.pane(-80, 0, 80, 0);
        x.seat(0, 10, 50);
        x.wall(0, ax, ay, bx, by, false);
        return 2 * x.blocks(0, 10, 40, 0) + x.blocks(0, 10, 40, 1);
    }

    private static void blocksUpright(Edge edge) {
        edge.is("an upright WALL in both lines", upright(10, 20, 10, 30), 3);
        edge.is("up to the eye and past the PLACE", upright(10, 45, 10, 50), 2);
        edge.is("from the PLACE to the eye", upright(10, 40, 10, 50), 2);
        edge.is("past the PLACE", upright(10, 39, 10, 50), 3);
        edge.is("behind the eye", upright(10, 50, 10, 60), 0);
        edge.is("past the eye", upright(10, 49, 10, 60), 2);
        edge.is("below X", upright(10, 0, 10, -5), 0);
        edge.is("past X", upright(10, 1, 10, -5), 3);
        edge.is("beside both", upright(11, 0, 11, 60), 0);
        edge.is("an end on both", upright(10, 20, 40, 20), 3);
        edge.is("an end at the PLACE", upright(10, 40, 40, 40), 2);
        edge.is("an end at the eye", upright(10, 50, 40, 50), 0);
        edge.is("the glass's own way", upright(-80, 0, 80, 0), 0);
    }

    private static int shown(int ax, int ay, int bx, int by) {
        GhostPane x = Stage.upright();
        x.wall(11, ax, ay, bx, by, false);
        return x.shows(11, 0);
    }

    private static void shows(Edge edge) {
        edge.about(15, "shows");
        for (int w : new int[] {-1, 2, 12, Integer.MIN_VALUE, Integer.MAX_VALUE}) {
            edge.refuses("WALL " + w, x -> x.shows(w, 0), -1);
        }
        for (int s : NO_SEAT) {
            edge.refuses("SEAT " + s, x -> x.shows(0, s), -1);
        }
        edge.leaves("asked alone", x -> x.shows(0, 0));
        edge.is("its first end alone", shown(-60, -30, -60, -90), 1);
        edge.is("its second end alone", shown(-60, -90, -60, -30), 1);
        edge.is("half too low, either end", shown(-60, -31, -60, -90), 0);
        edge.is("half too low, either end", shown(-60, -90, -60, -31), 0);
        edge.is("an end on the glass, the other behind it", shown(0, 10, 60, 10), 0);
        edge.is("an end ahead of the glass, the other behind it", shown(-1, 10, 61, 10), 1);
        GhostPane x = Stage.upright();
        x.wall(0, -60, -29, -60, -90, true);
        edge.is("of THE PIT, not lowered", x.shows(0, 0), 1);
        x.heights(0, 4, 1);
        edge.is("lowered to the edge", x.shows(0, 0), 1);
        x.heights(0, 4, 2);
        edge.is("lowered beyond it", x.shows(0, 0), 0);
        x.gone(1, 0);
        edge.is("a WALL that is none any more", x.shows(0, 0), -1);
    }

    /** By a glass from y 10 to 25 the eye sees from -60, -10 up to -60, 20. */
    private static int middleShown(int y) {
        GhostPane x = Stage.upright();
        x.pane(0, 10, 0, 25);
        x.wall(0, -60, 100, -60, y, false);
        return x.shows(0, 0);
    }

    private static void showsMiddle(Edge edge) {
        edge.is("its middle at y 20", middleShown(-60), 1);
        edge.is("its middle at y 20.5", middleShown(-59), 0);
        edge.is("its middle at y 19.5", middleShown(-61), 1);
        edge.is("its middle at y 0", middleShown(-100), 1);
        GhostPane x = Stage.upright();
        x.pane(0, 10, 0, 25);
        x.wall(0, -90, 100, -31, -61, false);
        edge.is("its middle at x -60.5", x.shows(0, 0), 1);
        x.wall(1, -50, -100, -50, 21, false);
        edge.is("its middle behind another WALL", x.shows(0, 0), 0);
        x = new GhostPane();
        x.pane(0, 0, 0, 1);
        x.seat(0, -60, 60);
        x.wall(0, -3, 1, 2, -1, false);
        edge.is("its middle at x -0.5, ahead of the glass", x.shows(0, 0), 1);
        x.wall(0, -2, 1, 2, -1, false);
        edge.is("its middle on the glass", x.shows(0, 0), 0);
        x.wall(0, -2, 1, 3, -1, false);
        edge.is("its middle at x 0.5, behind the glass", x.shows(0, 0), 0);
    }

    /** The middle alone, at 10, 29.5, is seen straight up by a glass at y 50, or straight down by one at y 10. */
    private static int middleAlong(int glassY, int eyeY, int from, int to) {
        GhostPane x = new GhostPane();
        x.pane(5, glassY, 15, glassY);
        x.seat(0, 10, eyeY);
        x.wall(0, -20, 29, 40, 30, false);
        x.wall(1, 10, from, 10, to, false);
        return x.shows(0, 0);
    }

    private static void showsMiddleAlong(Edge edge) {
        edge.is("half of another WALL's end on the way up", middleAlong(50, 40, 30, 25), 0);
        edge.is("another WALL beyond the middle", middleAlong(50, 40, 29, 25), 1);
        edge.is("half of another WALL's end on the way down", middleAlong(10, 20, 29, 35), 0);
        edge.is("another WALL beyond the middle", middleAlong(10, 20, 30, 35), 1);
    }

    /** WALLS that end at the PLACE -60, 10, whose other end, on the glass, is seen by none. */
    private static void showsItself(Edge edge) {
        edge.is("the WALL itself does not block what is on it", shown(0, 19, -60, 10), 1);
        edge.is("but where the line goes along it", shown(0, 20, -60, 10), 0);
        edge.is("its middle, crossed by the line's end", shown(-60, 95, -60, -100), 1);
    }

    private static void black(Edge edge) {
        edge.about(16, "black");
        edge.is("no WALL, no SEAT", new GhostPane().black(), 0);
        edge.leaves("asked alone", x -> x.black());
        GhostPane x = Stage.upright();
        edge.is("no WALL", x.black(), 0);
        for (int w = 0; w < 12; w++) {
            x.wall(w, -60 - w, 10, -60 - w, 12, false);
        }
        edge.is("all twelve", x.black(), 0xfff);
        x.gone(1, 0);
        x.gone(1, 11);
        edge.is("without the first and the last", x.black(), 0x7fe);
        x.wall(11, 60, 10, 60, 12, false);
        edge.is("one behind the glass", x.black(), 0x7fe);
        x.seat(7, 60, 30);
        edge.is("to some SEAT: the last one", x.black(), 0xffe);
        x.gone(0, 0);
        edge.is("to that alone", x.black(), 0x800);
        x.gone(0, 7);
        edge.is("no SEAT", x.black(), 0);
    }
}
