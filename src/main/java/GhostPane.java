/**
 * A room of stage glass: a pane tilted over a pit, so that an actor below stands as a ghost among
 * those above. The document's words in capitals name the terms that are used here.
 */
public final class GhostPane {
    public static final int NONE = -1;

    private static final int SEATS = 8;
    private static final int WALLS = 12;
    private static final int THINGS = 8;
    private static final int REACH = 100;
    private static final int FAR_REACH = 200;
    private static final int MOST_HAND = 50;
    private static final int MOST_DEEP = 60;
    private static final int LAST_COUNT = 240;
    private static final int NO_COUNT = -1000;
    private static final long NO_PLACE = -100000000L;

    private final Tape tape;
    private final Parser parser;
    private final Walk walk;
    private final Room room;
    private final Show show;
    private final Grid grid;
    private final Joints joints;
    private final Book book;

    public GhostPane() {
        tape = new Tape();
        parser = new Parser(tape);
        walk = new Walk();
        room = new Room();
        show = new Show(room, walk);
        grid = new Grid();
        joints = new Joints();
        book = new Book();
    }

    // ---- the room

    public int feed(int a, int b, int c, int d, int e) {
        if (!tape.hasRoom()) {
            return NONE;
        }
        tape.append(a);
        tape.append(b);
        tape.append(c);
        tape.append(d);
        tape.append(e);
        return tape.length;
    }

    public boolean end(int n) {
        if (n < 0 || n > tape.length) {
            return false;
        }
        tape.length = n;
        return true;
    }

    public boolean pane(int ax, int ay, int bx, int by) {
        if (!isStretch(ax, ay, bx, by)) {
            return false;
        }
        room.ax = ax;
        room.ay = ay;
        room.bx = bx;
        room.by = by;
        return true;
    }

    public boolean board(int cx, int cy, int dx, int dy) {
        if (!isStretch(cx, cy, dx, dy)) {
            return false;
        }
        room.cx = cx;
        room.cy = cy;
        room.dx = dx;
        room.dy = dy;
        return true;
    }

    public boolean heights(int floor, int hand, int deep) {
        if (!within(floor, -REACH, REACH) || !within(hand, 0, MOST_HAND) || !within(deep, 0, MOST_DEEP)) {
            return false;
        }
        room.floor = floor;
        room.hand = hand;
        room.deep = deep;
        return true;
    }

    public boolean seat(int s, int x, int y) {
        if (!within(s, 0, SEATS - 1) || !isPlace(x, y)) {
            return false;
        }
        room.seatThere[s] = true;
        room.eyeX[s] = x;
        room.eyeY[s] = y;
        return true;
    }

    public boolean wall(int w, int ax, int ay, int bx, int by, boolean pit) {
        if (!within(w, 0, WALLS - 1) || !isStretch(ax, ay, bx, by)) {
            return false;
        }
        room.wallThere[w] = true;
        room.wallEnds[w][0] = ax;
        room.wallEnds[w][1] = ay;
        room.wallEnds[w][2] = bx;
        room.wallEnds[w][3] = by;
        room.ofPit[w] = pit;
        return true;
    }

    public boolean thing(int t, int fromX, int toX, int fromY, int toY) {
        if (!within(t, 0, THINGS - 1) || !isPlace(fromX, fromY) || !isPlace(toX, toY)) {
            return false;
        }
        if (fromX >= toX || fromY >= toY) {
            return false;
        }
        room.thingThere[t] = true;
        room.boxes[t][0] = fromX;
        room.boxes[t][1] = toX;
        room.boxes[t][2] = fromY;
        room.boxes[t][3] = toY;
        return true;
    }

    public boolean gone(int what, int k) {
        switch (what) {
            case 0:
                return takeAway(room.seatThere, k);
            case 1:
                return takeAway(room.wallThere, k);
            case 2:
                return takeAway(room.thingThere, k);
            default:
                return false;
        }
    }

    // ---- what is seen

    public long of(int x, int y, int what) {
        if (!isFarPlace(x, y)) {
            return NO_PLACE;
        }
        show.layOwn();
        switch (what) {
            case 0:
                return show.glass.twiceAlong(2L * x, 2L * y) / 2;
            case 1:
                return show.glass.twiceOff(2L * x, 2L * y) / 2;
            case 2:
                return show.glass.len;
            case 3:
                return show.glass.mirroredX(x, y);
            case 4:
                return show.glass.mirroredY(x, y);
            default:
                return NO_PLACE;
        }
    }

    public int sees(int s, int x, int y) {
        if (!room.hasSeat(s) || !isFarPlace(x, y)) {
            return NONE;
        }
        show.layOwn();
        return bit(show.eyeSees(s, 2L * x, 2L * y));
    }

    public int where(int s, int x, int y) {
        if (!meetsPane(s, x, y)) {
            return NONE;
        }
        return show.glass.thousandth();
    }

    public int blocks(int s, int x, int y, int what) {
        if (!within(what, 0, 1) || !meetsPane(s, x, y)) {
            return NONE;
        }
        if (what == 0) {
            return show.glass.blockers(2L * room.eyeX[s], 2L * room.eyeY[s]);
        }
        return show.glass.blockers(2L * x, 2L * y);
    }

    public int shows(int w, int s) {
        if (!room.hasWall(w) || !room.hasSeat(s)) {
            return NONE;
        }
        show.layOwn();
        return bit(show.wallShows(w, s));
    }

    public int black() {
        show.layOwn();
        int bits = 0;
        for (int w = 0; w < WALLS; w++) {
            if (room.wallThere[w] && show.wallShowsToSome(w)) {
                bits |= 1 << w;
            }
        }
        return bits;
    }

    // ---- the walk

    public int walk() {
        parser.parse();
        tape.length = 0;
        if (tape.fault != 0) {
            return NONE;
        }
        walk.perform(parser.code);
        return walk.last;
    }

    public int fault(int what) {
        if (what == 0) {
            return tape.fault;
        }
        return what == 1 ? tape.faultPlace : NONE;
    }

    public int count(int c, int what) {
        if (!walk.hasCount(c)) {
            return NO_COUNT;
        }
        show.layOwn();
        show.standAt(c);
        switch (what) {
            case 0:
                return walk.spot[c];
            case 1:
                return walk.height[c];
            case 2:
                return bit(walk.lit[c]);
            case 3:
                return show.feetX;
            case 4:
                return show.feetY;
            case 5:
                return bit(show.isHeld());
            case 6:
                return show.clashes();
            default:
                return NO_COUNT;
        }
    }

    public int has(int s, int c) {
        if (!room.hasSeat(s) || !walk.hasCount(c)) {
            return NONE;
        }
        show.layOwn();
        return bit(show.isGood(c) && show.seesGhost(s));
    }

    public int counts(int s) {
        if (!room.hasSeat(s)) {
            return NONE;
        }
        show.layOwn();
        return show.countsOf(s);
    }

    public int house() {
        show.layOwn();
        return show.countsOfAll();
    }

    // ---- settings

    public int grid(int n, int sx, int sy, int m, int sd) {
        grid.clear();
        if (!within(n, 1, Grid.MOST) || !within(m, 1, Grid.MOST)) {
            return NONE;
        }
        if (!within(sx, -Grid.STEP, Grid.STEP) || !within(sy, -Grid.STEP, Grid.STEP) || !within(sd, 0, Grid.STEP)) {
            return NONE;
        }
        grid.lay(n, sx, sy, m, sd);
        if (!grid.canBe(room)) {
            grid.clear();
            return NONE;
        }
        return grid.settings();
    }

    public int tried(int k) {
        if (!canTry(k)) {
            return NONE;
        }
        show.laySetting(grid, k);
        return show.countsOfAll();
    }

    public int best() {
        if (!grid.canBe(room)) {
            return NONE;
        }
        int number = 0;
        int most = -1;
        for (int k = 0; k < grid.settings(); k++) {
            show.laySetting(grid, k);
            int sum = show.countsOfAll();
            if (sum > most) {
                most = sum;
                number = k;
            }
        }
        return number;
    }

    public boolean take(int k) {
        if (!canTry(k)) {
            return false;
        }
        int bx = grid.endX(room, k);
        int by = grid.endY(room, k);
        room.deep = grid.depth(room, k);
        room.bx = bx;
        room.by = by;
        grid.clear();
        return true;
    }

    // ---- joins

    public int joins(int m, int j) {
        if (!within(m, 1, Joints.WAY) || !within(j, 0, Joints.MOST_NEAR)) {
            return -1;
        }
        show.layOwn();
        joints.clearFaces();
        show.markFaces(joints);
        joints.banNear(j);
        return joints.find(m) ? joints.found : -2;
    }

    public int join(int k) {
        if (k < 0 || k >= joints.found) {
            return NONE;
        }
        return joints.places[k];
    }

    // ---- the book

    public int report(int s, int c, boolean saw) {
        if (!within(s, 0, SEATS - 1) || !within(c, 0, LAST_COUNT) || book.isFull()) {
            return NONE;
        }
        return book.addReport(s, c, saw);
    }

    public int void_(int act) {
        if (!book.canVoid(act)) {
            return NONE;
        }
        return book.addVoid(act);
    }

    public int quarrels(int k, int act) {
        int known = book.knownAt(act);
        if (known < 0 || !canTry(k)) {
            return NONE;
        }
        show.laySetting(grid, k);
        book.tally(show, known);
        return book.sums[known];
    }

    public int likely(int act) {
        int known = book.knownAt(act);
        if (known < 0 || !grid.canBe(room)) {
            return NONE;
        }
        int number = 0;
        int least = Book.MOST + 1;
        for (int k = 0; k < grid.settings(); k++) {
            show.laySetting(grid, k);
            book.tally(show, known);
            if (book.sums[known] < least) {
                least = book.sums[known];
                number = k;
            }
        }
        return number;
    }

    public int since() {
        if (!grid.canBe(room)) {
            return NONE;
        }
        book.clearLikely();
        for (int k = 0; k < grid.settings(); k++) {
            show.laySetting(grid, k);
            book.tally(show, book.acts);
            book.keepLikely(k);
        }
        return book.firstOfLastLikely();
    }

    public int all(int what) {
        switch (what) {
            case 0:
                return howMany(room.seatThere);
            case 1:
                return howMany(room.wallThere);
            case 2:
                return howMany(room.thingThere);
            case 3:
                return book.acts;
            case 4:
                return grid.settings();
            case 5:
                return walk.last;
            default:
                return NONE;
        }
    }

    private boolean meetsPane(int s, int x, int y) {
        if (!room.hasSeat(s) || !isFarPlace(x, y)) {
            return false;
        }
        show.layOwn();
        return show.glass.meets(2L * room.eyeX[s], 2L * room.eyeY[s], 2L * x, 2L * y);
    }

    private boolean canTry(int k) {
        return k >= 0 && k < grid.settings() && grid.canBe(room);
    }

    private static boolean takeAway(boolean[] there, int k) {
        if (k < 0 || k >= there.length || !there[k]) {
            return false;
        }
        there[k] = false;
        return true;
    }

    private static int howMany(boolean[] there) {
        int sum = 0;
        for (int k = 0; k < there.length; k++) {
            if (there[k]) {
                sum++;
            }
        }
        return sum;
    }

    private static int bit(boolean so) {
        return so ? 1 : 0;
    }

    private static boolean within(int value, int least, int most) {
        return value >= least && value <= most;
    }

    private static boolean isPlace(int x, int y) {
        return within(x, -REACH, REACH) && within(y, -REACH, REACH);
    }

    private static boolean isFarPlace(int x, int y) {
        return within(x, -FAR_REACH, FAR_REACH) && within(y, -FAR_REACH, FAR_REACH);
    }

    /** Whether two PLACES that are unlike are told. */
    private static boolean isStretch(int ax, int ay, int bx, int by) {
        return isPlace(ax, ay) && isPlace(bx, by) && (ax != bx || ay != by);
    }

    /** What stands in THE ROOM, as told. WALLS and THE BOARD are kept as they are before DEEP. */
    private static final class Room {
        int ax = -50;
        int ay = 0;
        int bx = 50;
        int by = 80;
        int cx = -60;
        int cy = -40;
        int dx = 60;
        int dy = -40;
        int floor = 0;
        int hand = 4;
        int deep = 0;
        final boolean[] seatThere = new boolean[SEATS];
        final int[] eyeX = new int[SEATS];
        final int[] eyeY = new int[SEATS];
        final boolean[] wallThere = new boolean[WALLS];
        final int[][] wallEnds = new int[WALLS][4];
        final boolean[] ofPit = new boolean[WALLS];
        final boolean[] thingThere = new boolean[THINGS];
        final int[][] boxes = new int[THINGS][4];

        boolean hasSeat(int s) {
            return s >= 0 && s < SEATS && seatThere[s];
        }

        boolean hasWall(int w) {
            return w >= 0 && w < WALLS && wallThere[w];
        }
    }

    /**
     * THE PANE of one SETTING and the WALLS as they stand by it. Lines are told in halves of a unit,
     * so that a WALL's middle is whole too, and X is kept times a common divisor: all is exact, and
     * below 10^17.
     */
    private static final class Glass {
        long len;
        int deep;
        final long[][] ends2 = new long[WALLS][4];
        private final boolean[] stands = new boolean[WALLS];
        private long ax2;
        private long ay2;
        private long cx;
        private long cy;
        /** X is at the part of the way from A to B that is along / whole. */
        private long along;
        private long whole;
        /** X in halves, times whole. */
        private long xTimes;
        private long yTimes;
        /** The line to X that is looked along, and its way, times whole. */
        private long fromX2;
        private long fromY2;
        private long goX;
        private long goY;

        void lay(Room room, int bx, int by, int lowered) {
            ax2 = 2L * room.ax;
            ay2 = 2L * room.ay;
            cx = bx - room.ax;
            cy = by - room.ay;
            len = cx * cx + cy * cy;
            deep = lowered;
            for (int w = 0; w < WALLS; w++) {
                stands[w] = room.wallThere[w];
                int down = room.ofPit[w] ? lowered : 0;
                ends2[w][0] = 2L * room.wallEnds[w][0];
                ends2[w][1] = 2L * (room.wallEnds[w][1] - down);
                ends2[w][2] = 2L * room.wallEnds[w][2];
                ends2[w][3] = 2L * (room.wallEnds[w][3] - down);
            }
        }

        long twiceAlong(long x2, long y2) {
            return (x2 - ax2) * cx + (y2 - ay2) * cy;
        }

        long twiceOff(long x2, long y2) {
            return (y2 - ay2) * cx - (x2 - ax2) * cy;
        }

        long mirroredX(int x, int y) {
            return len * x + twiceOff(2L * x, 2L * y) * cy;
        }

        long mirroredY(int x, int y) {
            return len * y - twiceOff(2L * x, 2L * y) * cx;
        }

        /** Whether there is an X on THE PANE between an eye and a PLACE; it is kept for what asks on. */
        boolean meets(long ex2, long ey2, long qx2, long qy2) {
            long eyeOff = twiceOff(ex2, ey2);
            long placeOff = twiceOff(qx2, qy2);
            boolean above = eyeOff > 0 && placeOff > 0;
            boolean below = eyeOff < 0 && placeOff < 0;
            if (!above && !below) {
                return false;
            }
            along = twiceAlong(ex2, ey2) * placeOff + twiceAlong(qx2, qy2) * eyeOff;
            whole = 2 * len * (eyeOff + placeOff);
            if (below) {
                along = -along;
                whole = -whole;
            }
            if (along < 0 || along > whole) {
                return false;
            }
            xTimes = ax2 * whole + 2 * cx * along;
            yTimes = ay2 * whole + 2 * cy * along;
            return true;
        }

        /** X's place on THE PANE, after meets. */
        int thousandth() {
            return whole > 0 ? (int) (1000 * along / whole) : NONE;
        }

        boolean canSee(long ex2, long ey2, long qx2, long qy2) {
            return meets(ex2, ey2, qx2, qy2) && isOpen(ex2, ey2) && isOpen(qx2, qy2);
        }

        /** The WALLS that block the line from a place to X, as bits. */
        int blockers(long x2, long y2) {
            look(x2, y2);
            int bits = 0;
            for (int w = 0; w < WALLS; w++) {
                if (stands[w] && isInWay(ends2[w])) {
                    bits |= 1 << w;
                }
            }
            return bits;
        }

        private boolean isOpen(long x2, long y2) {
            look(x2, y2);
            for (int w = 0; w < WALLS; w++) {
                if (stands[w] && isInWay(ends2[w])) {
                    return false;
                }
            }
            return true;
        }

        private void look(long x2, long y2) {
            fromX2 = x2;
            fromY2 = y2;
            goX = xTimes - x2 * whole;
            goY = yTimes - y2 * whole;
        }

        /** Whether a WALL has a place in common with the line that is looked along, its ends left out. */
        private boolean isInWay(long[] ends) {
            long ax = ends[0] - fromX2;
            long ay = ends[1] - fromY2;
            long bx = ends[2] - fromX2;
            long by = ends[3] - fromY2;
            long first = goX * ay - goY * ax;
            long second = goX * by - goY * bx;
            if (first > 0 && second > 0 || first < 0 && second < 0) {
                return false;
            }
            if (first == 0 && second == 0) {
                // all is on one line: one coordinate tells, that in which the line goes on
                return goX != 0 ? overlaps(ax, bx, goX) : overlaps(ay, by, goY);
            }
            long here = whole * (ax * by - ay * bx);
            long there = here + first - second;
            return here > 0 && there < 0 || here < 0 && there > 0;
        }

        /** Whether a stretch has more in common with that from 0 to go / whole than ends of it. */
        private boolean overlaps(long one, long other, long go) {
            long low = one < other ? one : other;
            long high = one < other ? other : one;
            if (go > 0) {
                return high > 0 && low * whole < go;
            }
            return low < 0 && high * whole > go;
        }
    }

    /** THE WALK in THE ROOM behind the glass that was laid last. */
    private static final class Show {
        private static final int FACE = 8;

        final Glass glass;
        /** The FEET at the count stood at last, and their y without the height of a rise. */
        int feetX;
        int feetY;
        private int groundY;
        private final Room room;
        private final Walk walk;

        Show(Room room, Walk walk) {
            this.room = room;
            this.walk = walk;
            glass = new Glass();
        }

        void layOwn() {
            glass.lay(room, room.bx, room.by, room.deep);
        }

        void laySetting(Grid grid, int k) {
            glass.lay(room, grid.endX(room, k), grid.endY(room, k), grid.depth(room, k));
        }

        boolean eyeSees(int s, long x2, long y2) {
            return glass.canSee(2L * room.eyeX[s], 2L * room.eyeY[s], x2, y2);
        }

        boolean wallShows(int w, int s) {
            long[] ends = glass.ends2[w];
            return eyeSees(s, ends[0], ends[1])
                || eyeSees(s, ends[2], ends[3])
                || eyeSees(s, (ends[0] + ends[2]) / 2, (ends[1] + ends[3]) / 2);
        }

        boolean wallShowsToSome(int w) {
            for (int s = 0; s < SEATS; s++) {
                if (room.seatThere[s] && wallShows(w, s)) {
                    return true;
                }
            }
            return false;
        }

        void standAt(int c) {
            int spot = walk.spot[c];
            feetX = room.cx + Math.floorDiv((room.dx - room.cx) * spot, 1000);
            groundY = room.cy - glass.deep + Math.floorDiv((room.dy - room.cy) * spot, 1000);
            feetY = groundY + walk.height[c];
        }

        boolean isHeld() {
            long above = glass.mirroredY(feetX, groundY) - glass.len * room.floor;
            return Math.abs(above) <= glass.len * room.hand;
        }

        /** The THINGS with which the ghost CLASHES, as bits. */
        int clashes() {
            long x = glass.mirroredX(feetX, feetY);
            long y = glass.mirroredY(feetX, feetY);
            int bits = 0;
            for (int t = 0; t < THINGS; t++) {
                if (room.thingThere[t] && isInside(room.boxes[t], x, y)) {
                    bits |= 1 << t;
                }
            }
            return bits;
        }

        private boolean isInside(int[] box, long x, long y) {
            long len = glass.len;
            return x > len * box[0] && x < len * box[1] && y > len * box[2] && y < len * box[3];
        }

        /** Stands at a count: whether all but the SEATS' sight is as it should be. */
        boolean isGood(int c) {
            standAt(c);
            return walk.lit[c] && isHeld() && clashes() == 0;
        }

        boolean seesGhost(int s) {
            long ex2 = 2L * room.eyeX[s];
            long ey2 = 2L * room.eyeY[s];
            return glass.canSee(ex2, ey2, 2L * feetX, 2L * feetY)
                && glass.canSee(ex2, ey2, 2L * feetX, 2L * (feetY + FACE));
        }

        private boolean seesFace(int s) {
            return glass.canSee(2L * room.eyeX[s], 2L * room.eyeY[s], 2L * feetX, 2L * (feetY + FACE));
        }

        /** Whether a SEAT sees the FACE in light, be there such a SEAT and count or not. */
        boolean wouldSeeFace(int s, int c) {
            if (!room.hasSeat(s) || !walk.hasCount(c) || !walk.lit[c]) {
                return false;
            }
            standAt(c);
            return seesFace(s);
        }

        int countsOf(int s) {
            int sum = 0;
            boolean had = false;
            for (int c = 0; c <= walk.last; c++) {
                if (!walk.isAsBefore(c)) {
                    had = isGood(c) && seesGhost(s);
                }
                if (had) {
                    sum++;
                }
            }
            return sum;
        }

        int countsOfAll() {
            int sum = 0;
            int seats = 0;
            for (int c = 0; c <= walk.last; c++) {
                if (!walk.isAsBefore(c)) {
                    seats = isGood(c) ? seatsSeeing() : 0;
                }
                sum += seats;
            }
            return sum;
        }

        private int seatsSeeing() {
            int seats = 0;
            for (int s = 0; s < SEATS; s++) {
                if (room.seatThere[s] && seesGhost(s)) {
                    seats++;
                }
            }
            return seats;
        }

        void markFaces(Joints joints) {
            for (int c = 0; c <= walk.last; c++) {
                if (walk.lit[c] && !walk.isAsBefore(c)) {
                    standAt(c);
                    markFacesHere(joints);
                }
            }
        }

        private void markFacesHere(Joints joints) {
            for (int s = 0; s < SEATS; s++) {
                if (room.seatThere[s] && seesFace(s)) {
                    joints.mark(glass.thousandth());
                }
            }
        }
    }

    /** The tape, and its reading: after the first FAULT nothing more is read. */
    private static final class Tape {
        private static final int MOST = 600;
        private static final int A_FEED = 20;
        private static final int MOST_DIGITS = 4;
        private static final int MOST_LETTERS = 6;

        int length;
        int fault = 0;
        int faultPlace = NONE;
        /** The latest word or NAME goes from the one up to the other. */
        int wordFrom;
        int wordTo;
        private int at;
        private final byte[] bytes = new byte[MOST];

        boolean hasRoom() {
            return length + A_FEED <= MOST;
        }

        void append(int number) {
            for (int shift = 24; shift >= 0 && length < MOST; shift -= 8) {
                bytes[length] = (byte) (number >>> shift);
                length++;
            }
        }

        void rewind() {
            at = 0;
            fault = 0;
            faultPlace = NONE;
        }

        void fail(int kind, int place) {
            if (fault == 0) {
                fault = kind;
                faultPlace = place;
            }
        }

        boolean isRead() {
            return at >= length;
        }

        int place() {
            return at;
        }

        void skipBlanks() {
            while (at < length && (bytes[at] == 10 || bytes[at] == 32)) {
                at++;
            }
        }

        /** Between words and numbers a blank is needed: without one no TEXT goes on. */
        private void skipGap() {
            int from = at;
            skipBlanks();
            if (at == from) {
                fail(1, at);
            }
        }

        boolean takesSign(char sign) {
            if (fault != 0 || at >= length || bytes[at] != sign) {
                return false;
            }
            at++;
            return true;
        }

        void needSign(char sign) {
            if (fault == 0) {
                skipBlanks();
                if (!takesSign(sign)) {
                    fail(1, at);
                }
            }
        }

        void readWord() {
            wordFrom = at;
            while (at < length && isLetter()) {
                at++;
            }
            wordTo = at;
        }

        boolean isWord(String word) {
            if (wordTo - wordFrom != word.length()) {
                return false;
            }
            for (int k = 0; k < word.length() && wordFrom + k < MOST; k++) {
                if (bytes[wordFrom + k] != word.charAt(k)) {
                    return false;
                }
            }
            return true;
        }

        /** Whether the latest word or NAME is the same as an earlier one. */
        boolean isSameWord(int from, int to) {
            if (to - from != wordTo - wordFrom) {
                return false;
            }
            for (int k = 0; from + k < to && to <= MOST && wordTo <= MOST; k++) {
                if (bytes[from + k] != bytes[wordFrom + k]) {
                    return false;
                }
            }
            return true;
        }

        void needWord(String word, String orWord) {
            skipGap();
            if (fault == 0) {
                readWord();
                if (!isWord(word) && !isWord(orWord)) {
                    fail(1, wordFrom);
                }
            }
        }

        void needName() {
            skipGap();
            if (fault == 0) {
                wordFrom = at;
                for (int k = 0; k < MOST_LETTERS && isLetter(); k++) {
                    at++;
                }
                wordTo = at;
                if (wordTo == wordFrom || isLetter()) {
                    fail(1, at);
                }
            }
        }

        /** The number that stands next; NONE with a FAULT. */
        int needNumber(int least, int most) {
            skipGap();
            if (fault != 0) {
                return NONE;
            }
            int from = at;
            int value = 0;
            for (int k = 0; k < MOST_DIGITS && isDigit(); k++) {
                value = 10 * value + bytes[at] - '0';
                at++;
            }
            if (at == from || isDigit()) {
                fail(1, at);
            } else if (value < least || value > most) {
                fail(2, from);
            }
            return fault == 0 ? value : NONE;
        }

        private boolean isLetter() {
            if (at >= length) {
                return false;
            }
            int sign = bytes[at];
            return sign >= 'a' && sign <= 'z' || sign >= 'A' && sign <= 'Z';
        }

        private boolean isDigit() {
            return at < length && bytes[at] >= '0' && bytes[at] <= '9';
        }
    }

    /** What the TEXT tells to do, in its order. */
    private static final class Code {
        /** Puts the actor and the light, each if not NONE. */
        static final int PUT = 0;
        static final int GO = 1;
        static final int STAY = 2;
        static final int RISE = 3;
        static final int REPEAT = 4;
        static final int FIGURE = 5;
        static final int DO = 6;
        /** The end of what is repeated or done. */
        static final int BACK = 7;
        /** No STATEMENT is shorter than 5 bytes, none with [ shorter than 11: 120 at most. */
        private static final int MOST = 128;

        int size;
        final int[] kind = new int[MOST];
        final int[] first = new int[MOST];
        final int[] second = new int[MOST];

        void add(int what, int a, int b) {
            if (size < MOST) {
                kind[size] = what;
                first[size] = a;
                second[size] = b;
                size++;
            }
        }

        /** What stands at a place leads to what comes next. */
        void pointPast(int at) {
            if (at >= 0 && at < MOST) {
                first[at] = size;
            }
        }
    }

    /** What stands between [ and ], or the whole TEXT. */
    private static final class Body {
        static final int OF_FIGURE = -1;

        int start;
        int times;
        /** Held at one more than can be: more of them must not wrap around. */
        int counts;
        /** Where it leaves the actor and the light, if it takes no counts; NONE: as they are. */
        int spot;
        int light;
        int nameFrom;
        int nameTo;

        void begin(int start, int times) {
            this.start = start;
            this.times = times;
            counts = 0;
            spot = NONE;
            light = NONE;
        }

        void addCounts(int more) {
            counts = Math.min(LAST_COUNT + 1, counts + more);
        }

        void put(int newSpot, int newLight) {
            spot = newSpot == NONE ? spot : newSpot;
            light = newLight == NONE ? light : newLight;
        }
    }

    /**
     * Makes Code of the tape. What takes no counts becomes one PUT however often it is repeated, so
     * that each Body in the Code takes a count at least and the performing stays short.
     */
    private static final class Parser {
        private static final int MOST_OPEN = 6;
        private static final int MOST_FIGURES = 12;

        final Code code = new Code();
        private final Tape tape;
        private final Body[] open = new Body[MOST_OPEN + 1];
        private final Body[] figures = new Body[MOST_FIGURES];
        private int depth;
        private int told;

        Parser(Tape tape) {
            this.tape = tape;
            for (int k = 0; k <= MOST_OPEN; k++) {
                open[k] = new Body();
            }
            for (int k = 0; k < MOST_FIGURES; k++) {
                figures[k] = new Body();
            }
        }

        void parse() {
            tape.rewind();
            code.size = 0;
            depth = 0;
            told = 0;
            open[0].begin(0, 1);
            for (int step = 0; step <= Tape.MOST && hasMore(); step++) {
                if (depth > 0 && tape.takesSign(']')) {
                    close();
                } else {
                    tell();
                }
            }
            if (open[0].counts > LAST_COUNT) {
                tape.fail(5, tape.length);
            }
        }

        private boolean hasMore() {
            if (tape.fault != 0) {
                return false;
            }
            tape.skipBlanks();
            if (!tape.isRead()) {
                return true;
            }
            if (depth > 0) {
                tape.fail(1, tape.length);
            }
            return false;
        }

        private void tell() {
            tape.readWord();
            if (tape.isWord("at")) {
                tellPut(tape.needNumber(0, 1000), NONE);
            } else if (tape.isWord("go")) {
                tellGo();
            } else if (tape.isWord("stay")) {
                tellCounts(Code.STAY, 0, tape.needNumber(1, 200));
            } else if (tape.isWord("rise")) {
                tellRise();
            } else if (tape.isWord("light")) {
                tellLight();
            } else if (tape.isWord("do")) {
                tellDo();
            } else if (tape.isWord("repeat")) {
                tellRepeat();
            } else if (tape.isWord("figure") && depth == 0) {
                tellFigure();
            } else {
                tape.fail(1, tape.wordFrom);
            }
        }

        private void tellPut(int spot, int light) {
            put(spot, light);
            tape.needSign(';');
        }

        private void put(int spot, int light) {
            if (spot != NONE || light != NONE) {
                code.add(Code.PUT, spot, light);
                open[depth].put(spot, light);
            }
        }

        private void tellCounts(int kind, int first, int counts) {
            code.add(kind, first, counts);
            open[depth].addCounts(counts);
            tape.needSign(';');
        }

        private void tellGo() {
            tape.needWord("to", "to");
            int spot = tape.needNumber(0, 1000);
            tape.needWord("in", "in");
            tellCounts(Code.GO, spot, tape.needNumber(1, 200));
        }

        private void tellRise() {
            int height = tape.needNumber(1, 40);
            tape.needWord("in", "in");
            tellCounts(Code.RISE, height, tape.needNumber(2, 40));
        }

        private void tellLight() {
            tape.needWord("on", "off");
            tellPut(NONE, tape.isWord("on") ? 1 : 0);
        }

        private void tellDo() {
            tape.needName();
            int f = figureNamed();
            if (f == NONE) {
                tape.fail(3, tape.wordFrom);
            } else if (figures[f].counts == 0) {
                put(figures[f].spot, figures[f].light);
            } else {
                code.add(Code.DO, figures[f].start + 1, 0);
                open[depth].addCounts(figures[f].counts);
            }
            tape.needSign(';');
        }

        private int figureNamed() {
            for (int f = 0; f < told; f++) {
                if (tape.isSameWord(figures[f].nameFrom, figures[f].nameTo)) {
                    return f;
                }
            }
            return NONE;
        }

        private void tellRepeat() {
            int times = tape.needNumber(0, 20);
            tellOpen(Code.REPEAT, times);
        }

        private void tellFigure() {
            if (told >= MOST_FIGURES) {
                tape.fail(4, tape.wordFrom);
            }
            tape.needName();
            if (figureNamed() != NONE) {
                tape.fail(3, tape.wordFrom);
            }
            int from = tape.wordFrom;
            int to = tape.wordTo;
            tellOpen(Code.FIGURE, Body.OF_FIGURE);
            open[depth].nameFrom = from;
            open[depth].nameTo = to;
        }

        private void tellOpen(int kind, int times) {
            tape.needSign('[');
            if (depth >= MOST_OPEN) {
                tape.fail(4, tape.place() - 1);
            }
            if (tape.fault == 0) {
                depth++;
                open[depth].begin(code.size, times);
                code.add(kind, times, 0);
            }
        }

        private void close() {
            Body body = open[depth];
            depth--;
            if (body.counts == 0 || body.times == 0) {
                code.size = body.start;
            } else {
                code.add(Code.BACK, 0, 0);
            }
            if (body.times == Body.OF_FIGURE) {
                closeFigure(body);
            } else if (body.times > 0) {
                closeRepeat(body);
            }
            tape.needSign(';');
        }

        private void closeRepeat(Body body) {
            if (body.counts == 0) {
                put(body.spot, body.light);
            } else {
                open[depth].addCounts(body.times * body.counts);
            }
        }

        private void closeFigure(Body body) {
            if (body.counts > 0) {
                code.pointPast(body.start);
            }
            if (told < MOST_FIGURES) {
                open[depth + 1] = figures[told];
                figures[told] = body;
                told++;
            }
        }
    }

    /** THE WALK count by count. */
    private static final class Walk {
        /** Each part of the Code takes its turn once a count at most: 128 * 240 are enough. */
        private static final int MOST_STEPS = 100000;
        /** A Body is open but once, and a TEXT has place for 54 with their names. */
        private static final int MOST_FRAMES = 80;
        private static final int FROM_DO = -1;

        int last;
        final int[] spot = new int[LAST_COUNT + 1];
        final int[] height = new int[LAST_COUNT + 1];
        final boolean[] lit = new boolean[LAST_COUNT + 1];
        private final int[] backTo = new int[MOST_FRAMES];
        private final int[] timesLeft = new int[MOST_FRAMES];
        private int frames;

        Walk() {
            lit[0] = true;
        }

        boolean hasCount(int c) {
            return c >= 0 && c <= last;
        }

        /** Whether all is at a count as at that before it: then what is seen is so too. */
        boolean isAsBefore(int c) {
            return c > 0 && spot[c] == spot[c - 1] && height[c] == height[c - 1] && lit[c] == lit[c - 1];
        }

        void perform(Code code) {
            last = 0;
            spot[0] = 0;
            height[0] = 0;
            lit[0] = true;
            frames = 0;
            int at = 0;
            for (int step = 0; step < MOST_STEPS && at < code.size; step++) {
                at = follow(code, at);
            }
        }

        private int follow(Code code, int at) {
            int a = code.first[at];
            int b = code.second[at];
            switch (code.kind[at]) {
                case Code.PUT:
                    put(a, b);
                    return at + 1;
                case Code.GO:
                    goTo(a, b);
                    return at + 1;
                case Code.STAY:
                    goTo(spot[last], b);
                    return at + 1;
                case Code.RISE:
                    rise(a, b);
                    return at + 1;
                case Code.REPEAT:
                    enter(at + 1, a - 1);
                    return at + 1;
                case Code.FIGURE:
                    return a;
                case Code.DO:
                    enter(at + 1, FROM_DO);
                    return a;
                default:
                    return comeBack(at);
            }
        }

        private void put(int newSpot, int light) {
            if (newSpot != NONE) {
                spot[last] = newSpot;
            }
            if (light != NONE) {
                lit[last] = light == 1;
            }
        }

        private void goTo(int to, int counts) {
            int from = spot[last];
            for (int k = 1; k <= counts && counts > 0; k++) {
                addCount(from + Math.floorDiv((to - from) * k, counts), 0);
            }
        }

        private void rise(int top, int counts) {
            int here = spot[last];
            for (int k = 1; k <= counts && counts > 0; k++) {
                addCount(here, 4 * top * k * (counts - k) / (counts * counts));
            }
        }

        private void addCount(int newSpot, int newHeight) {
            if (last < LAST_COUNT) {
                last++;
                spot[last] = newSpot;
                height[last] = newHeight;
                lit[last] = lit[last - 1];
            }
        }

        private void enter(int back, int times) {
            if (frames < MOST_FRAMES) {
                backTo[frames] = back;
                timesLeft[frames] = times;
                frames++;
            }
        }

        private int comeBack(int at) {
            if (frames < 1) {
                return at + 1;
            }
            int top = frames - 1;
            if (timesLeft[top] > 0) {
                timesLeft[top]--;
                return backTo[top];
            }
            frames = top;
            return timesLeft[top] == FROM_DO ? backTo[top] : at + 1;
        }
    }

    /** A GRID, told by its steps: its SETTINGS go on from THE PANE and DEEP as they are when asked. */
    private static final class Grid {
        static final int MOST = 6;
        static final int STEP = 20;

        private int n;
        private int sx;
        private int sy;
        private int m;
        private int sd;

        void clear() {
            n = 0;
            m = 0;
        }

        void lay(int n, int sx, int sy, int m, int sd) {
            this.n = n;
            this.sx = sx;
            this.sy = sy;
            this.m = m;
            this.sd = sd;
        }

        int settings() {
            return n * m;
        }

        /** Whether there is one, and each of its SETTINGS can be by now. */
        boolean canBe(Room room) {
            for (int i = 0; i < n; i++) {
                if (!isStretch(room.ax, room.ay, room.bx + i * sx, room.by + i * sy)) {
                    return false;
                }
            }
            return n > 0 && m > 0 && room.deep + (m - 1) * sd <= MOST_DEEP;
        }

        int endX(Room room, int k) {
            return room.bx + row(k) * sx;
        }

        int endY(Room room, int k) {
            return room.by + row(k) * sy;
        }

        int depth(Room room, int k) {
            return room.deep + (k - row(k) * m) * sd;
        }

        private int row(int k) {
            return m > 0 ? k / m : 0;
        }
    }

    /** JOINS of THE PANE, at thousandths of it. */
    private static final class Joints {
        static final int WAY = 1000;
        static final int MOST_NEAR = 100;

        int found;
        final int[] places = new int[WAY];
        private final boolean[] face = new boolean[WAY + 1];
        private final boolean[] banned = new boolean[WAY + 1];

        void clearFaces() {
            for (int p = 0; p <= WAY; p++) {
                face[p] = false;
                banned[p] = false;
            }
        }

        void mark(int p) {
            if (p >= 0 && p <= WAY) {
                face[p] = true;
            }
        }

        void banNear(int near) {
            int left = -MOST_NEAR;
            int right = WAY + MOST_NEAR;
            for (int p = 0; p <= WAY; p++) {
                left = face[p] ? p : left;
                if (p - left < near) {
                    banned[p] = true;
                }
                int q = WAY - p;
                right = face[q] ? q : right;
                if (right - q < near) {
                    banned[q] = true;
                }
            }
        }

        /**
         * Goes as far as it can each time: no other way is ever ahead of that, so it is the shortest,
         * and of those the one that is farther on. Without a way what was found before stays.
         */
        boolean find(int longest) {
            int many = stepsOf(longest);
            if (many < 0) {
                return false;
            }
            int at = 0;
            for (int k = 0; k < many && k < WAY; k++) {
                at = farthest(at, longest);
                places[k] = at;
            }
            found = many;
            return true;
        }

        /** How many JOINS the way takes; NONE when there is no way. */
        private int stepsOf(int longest) {
            int at = 0;
            int many = 0;
            while (many < WAY && at + longest < WAY) {
                int next = farthest(at, longest);
                if (next == at) {
                    return NONE;
                }
                at = next;
                many++;
            }
            return many;
        }

        private int farthest(int from, int longest) {
            for (int p = Math.min(WAY, from + longest); p > from; p--) {
                if (!banned[p]) {
                    return p;
                }
            }
            return from;
        }
    }

    /** THE BOOK: its ACTS, numbered from 1 on. */
    private static final class Book {
        static final int MOST = 100;
        private static final int A_REPORT = 0;

        int acts;
        /** QUARRELS of the SETTING tallied last, as known at each ACT. */
        final int[] sums = new int[MOST + 1];
        private final int[] seatOf = new int[MOST + 1];
        private final int[] countOf = new int[MOST + 1];
        private final boolean[] sawIt = new boolean[MOST + 1];
        private final boolean[] voided = new boolean[MOST + 1];
        /** The ACT that is made VOID, or A_REPORT. */
        private final int[] target = new int[MOST + 1];
        private final int[] least = new int[MOST + 1];
        private final int[] likeliest = new int[MOST + 1];

        boolean isFull() {
            return acts >= MOST;
        }

        int addReport(int s, int c, boolean saw) {
            if (isFull()) {
                return NONE;
            }
            acts++;
            seatOf[acts] = s;
            countOf[acts] = c;
            sawIt[acts] = saw;
            target[acts] = A_REPORT;
            return acts;
        }

        boolean canVoid(int act) {
            return !isFull() && act >= 1 && act <= acts && target[act] == A_REPORT && !voided[act];
        }

        int addVoid(int act) {
            if (!canVoid(act)) {
                return NONE;
            }
            acts++;
            target[acts] = act;
            voided[act] = true;
            return acts;
        }

        /** The ACT that is meant, 0 being ahead of all; NONE when there is none such. */
        int knownAt(int act) {
            if (act == NONE) {
                return acts;
            }
            return act >= 0 && act <= acts ? act : NONE;
        }

        /** A VOID takes back what its REPORT had added. */
        void tally(Show show, int upTo) {
            sums[0] = 0;
            for (int act = 1; act <= upTo && act <= MOST; act++) {
                int told = target[act];
                if (told >= 1 && told < act) {
                    sums[act] = sums[act - 1] - (sums[told] - sums[told - 1]);
                } else {
                    boolean sees = show.wouldSeeFace(seatOf[act], countOf[act]);
                    sums[act] = sums[act - 1] + bit(sees != sawIt[act]);
                }
            }
        }

        void clearLikely() {
            for (int act = 0; act <= MOST; act++) {
                least[act] = MOST + 1;
                likeliest[act] = NONE;
            }
        }

        /** Keeps a SETTING that was tallied where it has fewer QUARRELS than those before it. */
        void keepLikely(int k) {
            for (int act = 0; act <= acts; act++) {
                if (sums[act] < least[act]) {
                    least[act] = sums[act];
                    likeliest[act] = k;
                }
            }
        }

        int firstOfLastLikely() {
            int first = acts;
            while (first > 0 && likeliest[first - 1] == likeliest[acts]) {
                first--;
            }
            return first;
        }
    }
}
