/** Promises 29 to 33: the book of what watchers saw. */
public final class BookTest {
    private static final Due DUE = new Due("BookTest");

    public static void main(String[] args) {
        report();
        voids();
        full();
        quarrels();
        likelyAndSince();
        sinceChanges();
        fullSince();
        DUE.end();
    }

    /** By setting 0 the face is seen at count 3 alone, by 1 at 2 too, by 2 at all. */
    private static GhostPane theatre() {
        GhostPane x = new GhostPane();
        x.pane(0, 0, 0, 20);
        x.board(-40, 10, -10, 10);
        x.heights(10, 4, 0);
        x.seat(0, -60, 30);
        Due.walk(x, "go to 1000 in 3;");
        x.grid(3, 0, 2, 1, 0);
        return x;
    }

    private static void report() {
        GhostPane x = new GhostPane();
        DUE.is("seat 8", x.report(8, 0, true), -1);
        DUE.is("seat -1", x.report(-1, 0, true), -1);
        DUE.is("count 241", x.report(0, 241, true), -1);
        DUE.is("count -1", x.report(0, -1, true), -1);
        DUE.is("no acts", x.all(3), 0);
        DUE.is("a seat that is none", x.report(7, 0, true), 1);
        DUE.is("a count behind the last", x.report(0, 240, false), 2);
        DUE.is("acts", x.all(3), 2);
    }

    private static void voids() {
        GhostPane x = new GhostPane();
        DUE.is("an empty book", x.void_(0), -1);
        DUE.is("an empty book", x.void_(1), -1);
        x.report(0, 0, true);
        x.report(0, 0, true);
        DUE.is("void_(0)", x.void_(0), -1);
        DUE.is("void_(-1)", x.void_(-1), -1);
        DUE.is("void_(3)", x.void_(3), -1);
        DUE.is("void_(least)", x.void_(Integer.MIN_VALUE), -1);
        DUE.is("void_(most)", x.void_(Integer.MAX_VALUE), -1);
        DUE.is("void_(1)", x.void_(1), 3);
        DUE.is("void_(1) again", x.void_(1), -1);
        DUE.is("no report", x.void_(3), -1);
        DUE.is("void_(2)", x.void_(2), 4);
        DUE.is("a report behind it", x.report(0, 0, true), 5);
        DUE.is("void_(5)", x.void_(5), 6);
    }

    private static void full() {
        GhostPane x = new GhostPane();
        for (int k = 1; k <= 99; k++) {
            DUE.is("report", x.report(k % 8, k, k % 2 == 0), k);
        }
        DUE.is("the last one", x.void_(50), 100);
        DUE.is("report", x.report(0, 0, true), -1);
        DUE.is("void_", x.void_(51), -1);
        DUE.is("acts", x.all(3), 100);
        x.grid(1, 0, 0, 1, 0);
        DUE.is("quarrels of all: those that saw", x.quarrels(0, -1), 48);
        DUE.is("quarrels at 100", x.quarrels(0, 100), 48);
        DUE.is("quarrels at 99", x.quarrels(0, 99), 49);
        DUE.is("quarrels at 101", x.quarrels(0, 101), -1);
    }

    private static void quarrels() {
        GhostPane x = theatre();
        DUE.is("an empty book", x.quarrels(0, -1), 0);
        DUE.is("an empty book, at 0", x.quarrels(0, 0), 0);
        DUE.is("an empty book, at 1", x.quarrels(0, 1), -1);
        x.report(0, 3, true);
        x.report(0, 2, true);
        x.report(0, 1, false);
        x.report(5, 0, true);
        x.report(5, 0, false);
        x.report(0, 200, true);
        x.report(0, 200, false);
        int[][] due = {{0, 0, 1, 1, 2, 2, 3, 3}, {0, 0, 0, 0, 1, 1, 2, 2}, {0, 0, 0, 1, 2, 2, 3, 3}};
        for (int k = 0; k < 3; k++) {
            for (int act = 0; act <= 7; act++) {
                DUE.is("quarrels(" + k + ", " + act + ")", x.quarrels(k, act), due[k][act]);
            }
            DUE.is("quarrels(" + k + ", NONE)", x.quarrels(k, GhostPane.NONE), due[k][7]);
            DUE.is("quarrels(" + k + ", 8)", x.quarrels(k, 8), -1);
            DUE.is("quarrels(" + k + ", -2)", x.quarrels(k, -2), -1);
        }
        DUE.is("quarrels(3, -1)", x.quarrels(3, -1), -1);
        DUE.is("quarrels(-1, -1)", x.quarrels(-1, -1), -1);
        x.void_(2);
        DUE.is("void by 8", x.quarrels(0, 8), 2);
        DUE.is("not yet at 7", x.quarrels(0, 7), 3);
        DUE.is("void by the last", x.quarrels(0, -1), 2);
        DUE.is("what did not quarrel", x.quarrels(1, -1), 2);
        Due.walk(x, "light off; go to 1000 in 3;");
        DUE.is("in the dark none sees", x.quarrels(2, -1), 3);
        x.seat(5, -60, 30);
        Due.walk(x, "stay 200;");
        DUE.is("another walk, another seat: 1, 4 and 6", x.quarrels(0, -1), 3);
        DUE.is("another walk, another seat: 3, 5 and 7", x.quarrels(2, -1), 3);
        DUE.is("what is not held, or clashes, is seen", clashing(), 0);
        x.grid(7, 0, 0, 1, 0);
        DUE.is("no grid", x.quarrels(0, -1), -1);
    }

    private static int clashing() {
        GhostPane x = theatre();
        x.report(0, 3, true);
        x.heights(100, 0, 0);
        x.thing(0, -100, 100, -100, 100);
        return x.quarrels(0, -1);
    }

    private static void likelyAndSince() {
        GhostPane x = theatre();
        DUE.is("an empty book", x.likely(-1), 0);
        DUE.is("an empty book", x.likely(0), 0);
        DUE.is("an empty book", x.likely(1), -1);
        DUE.is("an empty book", x.since(), 0);
        x.report(0, 3, true);
        DUE.is("all alike", x.likely(-1), 0);
        DUE.is("all alike", x.since(), 0);
        x.report(0, 0, true);
        DUE.is("seen from far", x.likely(-1), 2);
        DUE.is("since", x.since(), 2);
        DUE.is("as known at 1", x.likely(1), 0);
        DUE.is("as known at 2", x.likely(2), 2);
        DUE.is("likely(3)", x.likely(3), -1);
        DUE.is("likely(-2)", x.likely(-2), -1);
        x.report(0, 3, true);
        DUE.is("still", x.since(), 2);
        x.void_(2);
        DUE.is("put right", x.likely(-1), 0);
        DUE.is("put right", x.likely(3), 2);
        DUE.is("since", x.since(), 4);
        x.grid(7, 0, 0, 1, 0);
        DUE.is("without a grid", x.likely(-1), -1);
        DUE.is("without a grid", x.since(), -1);
    }

    /** A book of 100 acts, the last one of which makes another setting LIKELY. */
    private static void fullSince() {
        GhostPane x = theatre();
        x.report(0, 0, true);
        DUE.is("void_(1)", x.void_(1), 2);
        DUE.is("the first act made void", x.quarrels(0, -1), 0);
        DUE.is("since", x.since(), 2);
        for (int act = 3; act <= 99; act++) {
            x.report(0, 3, true);
        }
        DUE.is("since", x.since(), 2);
        x.report(0, 2, true);
        DUE.is("likely", x.likely(100), 1);
        DUE.is("since the last", x.since(), 100);
        x.grid(2, 0, 1, 1, 0);
        DUE.is("neither", x.likely(-1), 0);
        DUE.is("since all of it", x.since(), 0);
        Due.walk(x, "go to 1000 in 3; stay 10;");
        x.grid(3, 0, 2, 1, 0);
        DUE.is("the same with a longer walk", x.since(), 100);
        Due.walk(x, "go to 1000 in 2;");
        DUE.is("a count that is none any more", x.quarrels(0, 99), 97);
        x.gone(0, 0);
        DUE.is("a seat that is none any more", x.quarrels(0, 100), 98);
    }

    private static void sinceChanges() {
        GhostPane x = theatre();
        x.report(0, 0, true);
        x.void_(1);
        x.report(0, 0, true);
        x.report(0, 3, true);
        DUE.is("from act 3 on again", x.since(), 3);
        x.report(0, 2, true);
        x.report(0, 0, false);
        x.report(0, 0, false);
        DUE.is("setting 1 by now", x.likely(-1), 1);
        DUE.is("since the tie", x.since(), 6);
        DUE.is("ahead of it", x.likely(5), 2);
        DUE.is("a tie at 6: the least number", x.likely(6), 1);
    }
}
