/** Edges of promises 19 to 22: what is so at a count, who has it, and the house. */
final class HouseEdges {
    private static final int[] NO_SEAT = {-1, 3, 8, Integer.MIN_VALUE, Integer.MAX_VALUE};

    private HouseEdges() {
    }

    static void rows(Edge edge) {
        count(edge);
        countLast(edge);
        thousandths(edge);
        heights(edge);
        light(edge);
        feet(edge);
        held(edge);
        clashes(edge);
        has(edge);
        hasParts(edge);
        counts(edge);
        house(edge);
    }

    private static void count(Edge edge) {
        edge.about(19, "count");
        for (int what = 0; what <= 6; what++) {
            int kind = what;
            for (int c : new int[] {-1, Stage.LAST + 1, 241, Integer.MIN_VALUE, Integer.MAX_VALUE}) {
                edge.refuses("count " + c + ", what " + what, x -> x.count(c, kind), -1000);
            }
            edge.refuses("count 1 of an empty WALK", GhostPane::new, x -> x.count(1, kind), -1000);
            edge.leaves("asked alone", x -> x.count(3, kind));
        }
        for (int what : new int[] {-1, 7, Integer.MIN_VALUE, Integer.MAX_VALUE}) {
            edge.refuses("what " + what, x -> x.count(0, what), -1000);
        }
        int[] last = {1000, 0, 1, -10, 10, 1, 0};
        for (int what = 0; what <= 6; what++) {
            edge.is("the last count, what " + what, Stage.full().count(Stage.LAST, what), last[what]);
        }
    }

    private static void countLast(Edge edge) {
        GhostPane x = new GhostPane();
        Due.walk(x, "stay 200; go to 1000 in 40;");
        edge.is("count 240", x.count(240, 0), 1000);
        edge.is("count 239", x.count(239, 0), 975);
        edge.is("count 241", x.count(241, 0), -1000);
        Due.walk(x, "stay 1;");
        edge.is("count 1", x.count(1, 0), 0);
        edge.is("count 2 of a longer WALK before", x.count(2, 0), -1000);
    }

    private static GhostPane walked(String text) {
        GhostPane x = new GhostPane();
        Due.walk(x, text);
        return x;
    }

    private static void spots(Edge edge, String text, int... spots) {
        GhostPane x = walked(text);
        for (int c = 0; c < spots.length; c++) {
            edge.is("thousandths at " + c + " of " + text, x.count(c, 0), spots[c]);
        }
        edge.is("no count behind the last of " + text, x.count(spots.length, 0), -1000);
    }

    private static void thousandths(Edge edge) {
        spots(edge, "", 0);
        spots(edge, "at 1000;", 1000);
        spots(edge, "at 1000; at 0;", 0);
        spots(edge, "go to 1000 in 1;", 0, 1000);
        spots(edge, "go to 10 in 3;", 0, 3, 6, 10);
        spots(edge, "at 10; go to 0 in 3;", 10, 6, 3, 0);
        spots(edge, "at 1; go to 0 in 4;", 1, 0, 0, 0, 0);
        spots(edge, "go to 1 in 4;", 0, 0, 0, 0, 1);
        spots(edge, "at 5; go to 5 in 2;", 5, 5, 5);
        spots(edge, "go to 8 in 2; at 3; stay 1; at 4;", 0, 4, 3, 4);
        spots(edge, "go to 8 in 2; at 3; go to 7 in 2;", 0, 4, 3, 5, 7);
        spots(edge, "repeat 2[go to 9 in 1; at 1;];", 0, 1, 1);
        spots(edge, "at 9; rise 40 in 2; stay 1;", 9, 9, 9, 9);
        spots(edge, "repeat 0[at 7;];", 0);
        spots(edge, "repeat 20[at 7;];", 7);
        spots(edge, "repeat 2[repeat 2[stay 1; at 9;]; at 2;];", 0, 9, 2, 9, 2);
        spots(edge, "repeat 2[repeat 2[stay 1;]; go to 3 in 1;];", 0, 0, 0, 3, 3, 3, 3);
        spots(edge, "figure a[at 7;]; do a;", 7);
        spots(edge, "figure a[at 7;]; figure b[]; at 5; do b;", 5);
        spots(edge, "figure a[at 7; stay 1; at 8;]; at 5; do a; at 6; do a;", 7, 7, 8);
        spots(edge, "repeat 2[at 7;]; repeat 2[light on;]; at 5; repeat 2[];", 5);
        GhostPane x = walked("at 1000; go to 0 in 200; stay 40;");
        edge.is("the longest go, its 1st count", x.count(1, 0), 995);
        edge.is("the longest go, its 199th count", x.count(199, 0), 5);
        edge.is("the longest go, its 200th count", x.count(200, 0), 0);
        x = walked("at 999; go to 0 in 200;");
        edge.is("floor of what goes back: 994.005", x.count(1, 0), 994);
        edge.is("floor of what goes back: 4.995", x.count(199, 0), 4);
    }

    private static void heights(Edge edge) {
        String[] texts = {"rise 1 in 2;", "rise 40 in 2;", "rise 8 in 4;", "rise 1 in 3;", "rise 40 in 3;", "rise 7 in 5; stay 1;"};
        int[][] due = {{0, 1, 0}, {0, 40, 0}, {0, 6, 8, 6, 0}, {0, 0, 0, 0}, {0, 35, 35, 0}, {0, 4, 6, 6, 4, 0, 0}};
        for (int k = 0; k < texts.length; k++) {
            GhostPane x = walked(texts[k]);
            for (int c = 0; c < due[k].length; c++) {
                edge.is("height at " + c + " of " + texts[k], x.count(c, 1), due[k][c]);
            }
        }
        GhostPane x = walked("rise 40 in 40;");
        edge.is("the longest rise, its 1st count: 3.9", x.count(1, 1), 3);
        edge.is("the longest rise, its 20th count", x.count(20, 1), 40);
        edge.is("the longest rise, its 39th count: 3.9", x.count(39, 1), 3);
        edge.is("the longest rise, its last count", x.count(40, 1), 0);
        Due.walk(x, "stay 2;");
        edge.is("no height but in rise", x.count(1, 1), 0);
        Due.walk(x, "go to 9 in 2;");
        edge.is("no height but in rise", x.count(1, 1), 0);
    }

    private static void light(Edge edge) {
        String[] texts = {"light off;", "light off; light on;", "stay 1; light off; stay 1; light on; stay 1;",
            "light off; rise 3 in 2; light on;", "stay 1; light off; light on; light off;", "figure a[light off;]; do a;",
            "repeat 2[light off;]; stay 1;", "figure a[light off;]; figure b[at 5;]; do b;", "repeat 0[light off;];"};
        int[][] due = {{0}, {1}, {1, 0, 1, 1}, {0, 0, 1}, {1, 0}, {0}, {0, 0}, {1}, {1}};
        for (int k = 0; k < texts.length; k++) {
            GhostPane x = walked(texts[k]);
            for (int c = 0; c < due[k].length; c++) {
                edge.is("light at " + c + " of " + texts[k], x.count(c, 2), due[k][c]);
            }
        }
    }

    /** Each of x and y by itself: the floor of a way back is below it. */
    private static void feet(Edge edge) {
        GhostPane x = walked("at 1; stay 1; at 999; stay 1; at 1000; stay 1; at 500;");
        x.board(0, 0, 1, -1);
        int[] dueX = {0, 0, 1, 0};
        int[] dueY = {-1, -1, -1, -1};
        for (int c = 0; c <= 3; c++) {
            edge.is("FEET x at " + c, x.count(c, 3), dueX[c]);
            edge.is("FEET y at " + c, x.count(c, 4), dueY[c]);
        }
        x.board(-100, 100, 100, -100);
        edge.is("FEET x at 1 of the longest board", x.count(0, 3), -100);
        edge.is("FEET y at 1 of the longest board", x.count(0, 4), 99);
        edge.is("FEET x at 999", x.count(1, 3), 99);
        edge.is("FEET y at 999", x.count(1, 4), -100);
        edge.is("FEET x at D", x.count(2, 3), 100);
        edge.is("FEET y at D", x.count(2, 4), -100);
        x.heights(0, 4, 60);
        edge.is("FEET y at D, lowered most", x.count(2, 4), -160);
        edge.is("FEET x at D, lowered most", x.count(2, 3), 100);
        Due.walk(x, "rise 40 in 2;");
        edge.is("FEET y at C, lowered, at their height", x.count(1, 4), 80);
        edge.is("FEET y at C, lowered", x.count(0, 4), 40);
    }

    private static void held(Edge edge) {
        GhostPane x = Stage.theatre();
        for (int hand : new int[] {0, 4, 50}) {
            for (int way = -1; way <= 1; way += 2) {
                x.heights(10 + way * hand, hand, 0);
                edge.is("HAND " + hand + " at most", x.count(0, 5), 1);
                x.heights(10 + way * (hand + 1), hand, 0);
                edge.is("one more than HAND " + hand, x.count(0, 5), 0);
            }
        }
        Due.walk(x, "rise 40 in 2;");
        x.heights(14, 4, 0);
        edge.is("HELD without the height of a rise", x.count(1, 5), 1);
        x.heights(50, 4, 0);
        edge.is("not HELD by the height of a rise", x.count(1, 5), 0);
        x.heights(-50, 0, 60);
        edge.is("HELD where DEEP has lowered it", x.count(0, 5), 1);
        x.heights(-49, 0, 60);
        edge.is("not HELD beside it", x.count(0, 5), 0);
        heldBetween(edge);
    }

    /** A glass of (4, 3) / 5 mirrors 10, 0 to 2.8, 9.6: between numbers. */
    private static void heldBetween(Edge edge) {
        GhostPane x = new GhostPane();
        x.pane(0, 0, 40, 30);
        x.board(10, 0, 11, 0);
        int[][] due = {{9, 0, 0}, {10, 0, 0}, {9, 1, 1}, {10, 1, 1}, {8, 1, 0}, {11, 1, 0}, {8, 2, 1}, {11, 2, 1}};
        for (int[] d : due) {
            x.heights(d[0], d[1], 0);
            edge.is("9.6 and HAND " + d[1] + " at floor " + d[0], x.count(0, 5), d[2]);
        }
    }

    private static int clash(int fromX, int toX, int fromY, int toY) {
        GhostPane x = Stage.theatre();
        x.thing(7, fromX, toX, fromY, toY);
        return x.count(0, 6);
    }

    /** FEET -40, 10 MIRRORED are at 40, 10. */
    private static void clashes(Edge edge) {
        edge.is("in the box", clash(39, 41, 9, 11), 128);
        edge.is("in the greatest box", clash(-100, 100, -100, 100), 128);
        edge.is("at its left border", clash(40, 41, 9, 11), 0);
        edge.is("at its right border", clash(39, 40, 9, 11), 0);
        edge.is("at its lower border", clash(39, 41, 10, 11), 0);
        edge.is("at its upper border", clash(39, 41, 9, 10), 0);
        edge.is("at its corner", clash(40, 41, 10, 11), 0);
        edge.is("where the FEET are not MIRRORED", clash(-41, -39, 9, 11), 0);
        GhostPane x = Stage.theatre();
        for (int t = 0; t < 8; t++) {
            x.thing(t, 39 - t, 41, 9, 11);
        }
        edge.is("all eight", x.count(0, 6), 255);
        x.gone(2, 0);
        edge.is("without the first", x.count(0, 6), 254);
        Due.walk(x, "light off; rise 1 in 2;");
        edge.is("at the border by the height of a rise", x.count(1, 6), 0);
        edge.is("in the dark too", x.count(0, 6), 254);
        x.heights(9, 4, 1);
        edge.is("lowered to the border", x.count(0, 6), 0);
    }

    private static void has(Edge edge) {
        edge.about(20, "has");
        for (int s : NO_SEAT) {
            edge.refuses("SEAT " + s, x -> x.has(s, 0), -1);
        }
        for (int c : new int[] {-1, Stage.LAST + 1, 241, Integer.MIN_VALUE, Integer.MAX_VALUE}) {
            edge.refuses("count " + c, x -> x.has(0, c), -1);
        }
        edge.leaves("asked alone", x -> x.has(0, 0));
        GhostPane x = Stage.theatre();
        x.seat(7, -60, 30);
        edge.is("SEAT 0, count 0", x.has(0, 0), 1);
        edge.is("SEAT 7, the last count", x.has(7, 3), 1);
        edge.is("SEAT 7, behind the last", x.has(7, 4), -1);
        x.gone(0, 7);
        edge.is("a SEAT that is none any more", x.has(7, 3), -1);
    }

    /** The eye is as far from the glass as the FEET: X is half way up between both, at y 20 and, for the FACE, 24. */
    private static void hasParts(Edge edge) {
        GhostPane x = Stage.theatre();
        x.seat(0, -40, 30);
        edge.is("all is so", x.has(0, 0), 1);
        x.pane(0, 0, 0, 24);
        edge.is("the FACE by the glass's end", x.has(0, 0), 1);
        x.pane(0, 0, 0, 23);
        edge.is("the FACE above the glass", x.has(0, 0), 0);
        x.pane(0, 20, 0, 80);
        edge.is("the FEET by the glass's end", x.has(0, 0), 1);
        x.pane(0, 21, 0, 80);
        edge.is("the FEET below the glass", x.has(0, 0), 0);
        x.pane(0, 0, 0, 80);
        x.wall(0, -20, 14, -20, 15, false);
        edge.is("a WALL on the way to the FEET", x.has(0, 0), 0);
        x.wall(0, -20, 21, -20, 22, false);
        edge.is("a WALL on the way to the FACE", x.has(0, 0), 0);
        x.wall(0, -20, 16, -20, 20, false);
        edge.is("a WALL between both ways", x.has(0, 0), 1);
        x.heights(15, 4, 0);
        edge.is("not HELD", x.has(0, 0), 0);
        x.heights(14, 4, 0);
        edge.is("HELD", x.has(0, 0), 1);
        x.thing(3, 39, 41, 9, 11);
        edge.is("a CLASH", x.has(0, 0), 0);
        x.thing(3, 39, 40, 9, 11);
        edge.is("at the border", x.has(0, 0), 1);
        Due.walk(x, "light off;");
        edge.is("no light", x.has(0, 0), 0);
        Due.walk(x, "light off; light on;");
        edge.is("light", x.has(0, 0), 1);
    }

    private static void counts(Edge edge) {
        edge.about(21, "counts");
        for (int s : NO_SEAT) {
            edge.refuses("SEAT " + s, x -> x.counts(s), -1);
        }
        edge.leaves("asked alone", x -> x.counts(0));
        GhostPane x = Stage.theatre();
        x.seat(7, 60, 30);
        edge.is("all of them, count 0 and the last too", x.counts(0), 4);
        edge.is("none of them", x.counts(7), 0);
        Due.walk(x, "");
        edge.is("count 0 alone", x.counts(0), 1);
        Due.walk(x, "stay 200; stay 40;");
        edge.is("the most", x.counts(0), 241);
        Due.walk(x, "light off; stay 5; light on;");
        edge.is("the last one alone", x.counts(0), 1);
        Due.walk(x, "stay 5; light off;");
        edge.is("all but the last one", x.counts(0), 5);
        x.pane(0, 0, 0, 23);
        Due.walk(x, "rise 40 in 2; stay 2;");
        edge.is("all but that at which the FACE is above the glass", x.counts(0), 4);
        x.gone(0, 0);
        edge.is("a SEAT that is none any more", x.counts(0), -1);
    }

    private static void house(Edge edge) {
        edge.about(22, "house");
        edge.is("no SEAT", new GhostPane().house(), 0);
        edge.leaves("asked alone", x -> x.house());
        GhostPane x = Stage.theatre();
        edge.is("SEAT 0", x.house(), 4);
        x.gone(0, 0);
        edge.is("none", x.house(), 0);
        x.seat(7, -60, 30);
        edge.is("SEAT 7", x.house(), 4);
        for (int s = 0; s < 8; s++) {
            x.seat(s, -60, 30);
        }
        edge.is("all SEATS", x.house(), 32);
        Due.walk(x, "stay 200; stay 40;");
        edge.is("the most", x.house(), 8 * 241);
        Due.walk(x, "");
        edge.is("count 0 alone", x.house(), 8);
        x.seat(3, 60, 30);
        edge.is("one that sees nothing", x.house(), 7);
        Due.walk(x, "light off;");
        edge.is("no light", x.house(), 0);
    }
}
