import java.util.ArrayList;
import java.util.List;
import java.util.Map;
import java.util.TreeMap;

/**
 * A second way to all answers, as plain and slow as the document's words, with exact fractions: it is
 * what the random runs are held against.
 */
final class Model {
    private record Eye(int x, int y) { }

    private record Wall(int ax, int ay, int bx, int by, boolean pit) { }

    private record Box(int fromX, int toX, int fromY, int toY) { }

    private record Act(int seat, int count, boolean saw, int voids) { }

    private record Glass(int bx, int by, int deep) { }

    private record Steps(int n, int sx, int sy, int m, int sd) { }

    private final StringBuilder tape = new StringBuilder();
    private final Map<Integer, Eye> seats = new TreeMap<>();
    private final Map<Integer, Wall> walls = new TreeMap<>();
    private final Map<Integer, Box> things = new TreeMap<>();
    private final List<Act> acts = new ArrayList<>();
    private List<int[]> counts = new ModelText("").counts;
    private List<Integer> joins = new ArrayList<>();
    private Steps steps;
    private Glass own = new Glass(50, 80, 0);
    private int ax = -50;
    private int ay = 0;
    private int cx = -60;
    private int cy = -40;
    private int dx = 60;
    private int dy = -40;
    private int floor = 0;
    private int hand = 4;
    private int fault = 0;
    private int faultPlace = -1;

    private static boolean in(int value, int least, int most) {
        return least <= value && value <= most;
    }

    private static boolean places(int... numbers) {
        for (int number : numbers) {
            if (!in(number, -100, 100)) {
                return false;
            }
        }
        return true;
    }

    int feed(int a, int b, int c, int d, int e) {
        if (tape.length() > 580) {
            return -1;
        }
        for (int number : new int[] {a, b, c, d, e}) {
            for (int k = 3; k >= 0; k--) {
                tape.append((char) (number >> 8 * k & 255));
            }
        }
        return tape.length();
    }

    boolean end(int n) {
        if (!in(n, 0, tape.length())) {
            return false;
        }
        tape.setLength(n);
        return true;
    }

    boolean pane(int px, int py, int qx, int qy) {
        if (!places(px, py, qx, qy) || px == qx && py == qy) {
            return false;
        }
        ax = px;
        ay = py;
        own = new Glass(qx, qy, own.deep);
        return true;
    }

    boolean board(int px, int py, int qx, int qy) {
        if (!places(px, py, qx, qy) || px == qx && py == qy) {
            return false;
        }
        cx = px;
        cy = py;
        dx = qx;
        dy = qy;
        return true;
    }

    boolean heights(int newFloor, int newHand, int newDeep) {
        if (!in(newFloor, -100, 100) || !in(newHand, 0, 50) || !in(newDeep, 0, 60)) {
            return false;
        }
        floor = newFloor;
        hand = newHand;
        own = new Glass(own.bx, own.by, newDeep);
        return true;
    }

    boolean seat(int s, int x, int y) {
        boolean can = in(s, 0, 7) && places(x, y);
        if (can) {
            seats.put(s, new Eye(x, y));
        }
        return can;
    }

    boolean wall(int w, int px, int py, int qx, int qy, boolean pit) {
        boolean can = in(w, 0, 11) && places(px, py, qx, qy) && !(px == qx && py == qy);
        if (can) {
            walls.put(w, new Wall(px, py, qx, qy, pit));
        }
        return can;
    }

    boolean thing(int t, int fromX, int toX, int fromY, int toY) {
        boolean can = in(t, 0, 7) && places(fromX, toX, fromY, toY) && fromX < toX && fromY < toY;
        if (can) {
            things.put(t, new Box(fromX, toX, fromY, toY));
        }
        return can;
    }

    boolean gone(int what, int k) {
        switch (what) {
            case 0:
                return seats.remove(k) != null;
            case 1:
                return walls.remove(k) != null;
            case 2:
                return things.remove(k) != null;
            default:
                return false;
        }
    }

    // ---- what is seen

    private Spot a() {
        return Spot.at(ax, ay);
    }

    private Spot c(Glass g) {
        return Spot.at(g.bx, g.by).minus(a());
    }

    private Fraction len(Glass g) {
        return c(g).dot(c(g));
    }

    private Fraction off(Glass g, Spot q) {
        return q.minus(a()).dot(c(g).left());
    }

    private Spot mirrored(Glass g, Spot q) {
        Fraction much = Fraction.whole(2).times(off(g, q)).over(len(g));
        return q.minus(c(g).left().times(much));
    }

    long of(int x, int y, int what) {
        if (!in(x, -200, 200) || !in(y, -200, 200) || !in(what, 0, 4)) {
            return -100000000;
        }
        Spot q = Spot.at(x, y);
        Spot far = mirrored(own, q).times(len(own));
        Fraction[] answers = {q.minus(a()).dot(c(own)), off(own, q), len(own), far.x(), far.y()};
        return answers[what].floor();
    }

    /** X on THE PANE, or null. */
    private Spot meeting(Glass g, Spot e, Spot q) {
        Fraction eyeOff = off(g, e);
        if (eyeOff.sign() == 0 || eyeOff.sign() != off(g, q).sign()) {
            return null;
        }
        Spot far = mirrored(g, q);
        Fraction part = eyeOff.over(eyeOff.minus(off(g, far)));
        Spot x = e.plus(far.minus(e).times(part));
        Fraction along = x.minus(a()).dot(c(g));
        return along.isBetween(Fraction.ZERO, len(g)) ? x : null;
    }

    private int blockers(Glass g, Spot from, Spot to) {
        int bits = 0;
        for (Map.Entry<Integer, Wall> wall : walls.entrySet()) {
            Spot[] ends = ends(g, wall.getValue());
            if (Spot.blocks(ends[0], ends[1], from, to)) {
                bits += 1 << wall.getKey();
            }
        }
        return bits;
    }

    private Spot[] ends(Glass g, Wall w) {
        int down = w.pit ? g.deep : 0;
        return new Spot[] {Spot.at(w.ax, w.ay - down), Spot.at(w.bx, w.by - down)};
    }

    private boolean seesBy(Glass g, Eye eye, Spot q) {
        Spot e = Spot.at(eye.x, eye.y);
        Spot x = meeting(g, e, q);
        return x != null && blockers(g, e, x) == 0 && blockers(g, x, q) == 0;
    }

    private Spot meetingOf(int s, int x, int y) {
        if (!seats.containsKey(s) || !in(x, -200, 200) || !in(y, -200, 200)) {
            return null;
        }
        return meeting(own, Spot.at(seats.get(s).x, seats.get(s).y), Spot.at(x, y));
    }

    private static int bit(boolean so) {
        return so ? 1 : 0;
    }

    int sees(int s, int x, int y) {
        if (!seats.containsKey(s) || !in(x, -200, 200) || !in(y, -200, 200)) {
            return -1;
        }
        return bit(seesBy(own, seats.get(s), Spot.at(x, y)));
    }

    private int thousandth(Glass g, Spot x) {
        return (int) Fraction.whole(1000).times(x.minus(a()).dot(c(g))).over(len(g)).floor();
    }

    int where(int s, int x, int y) {
        Spot meeting = meetingOf(s, x, y);
        return meeting == null ? -1 : thousandth(own, meeting);
    }

    int blocks(int s, int x, int y, int what) {
        Spot meeting = meetingOf(s, x, y);
        if (meeting == null || !in(what, 0, 1)) {
            return -1;
        }
        Spot from = what == 0 ? Spot.at(seats.get(s).x, seats.get(s).y) : Spot.at(x, y);
        return blockers(own, from, meeting);
    }

    int shows(int w, int s) {
        if (!walls.containsKey(w) || !seats.containsKey(s)) {
            return -1;
        }
        Spot[] ends = ends(own, walls.get(w));
        Spot middle = ends[0].plus(ends[1]).times(Fraction.ONE.over(Fraction.whole(2)));
        Eye eye = seats.get(s);
        return bit(seesBy(own, eye, ends[0]) || seesBy(own, eye, ends[1]) || seesBy(own, eye, middle));
    }

    int black() {
        int bits = 0;
        for (int w : walls.keySet()) {
            for (int s : seats.keySet()) {
                bits |= shows(w, s) << w;
            }
        }
        return bits;
    }

    // ---- the walk

    int walk() {
        ModelText text = new ModelText(tape.toString());
        tape.setLength(0);
        fault = text.fault;
        faultPlace = text.place;
        if (fault == 0) {
            counts = text.counts;
        }
        return fault == 0 ? counts.size() - 1 : -1;
    }

    int fault(int what) {
        return what == 0 ? fault : what == 1 ? faultPlace : -1;
    }

    private int[] feet(Glass g, int c, int height) {
        Fraction part = Fraction.whole(counts.get(c)[0]).over(Fraction.whole(1000));
        long x = cx + Fraction.whole(dx - cx).times(part).floor();
        long y = cy - g.deep + Fraction.whole(dy - cy).times(part).floor() + height;
        return new int[] {(int) x, (int) y};
    }

    private Spot feetSpot(Glass g, int c, int height) {
        int[] feet = feet(g, c, height);
        return Spot.at(feet[0], feet[1]);
    }

    private boolean held(Glass g, int c) {
        Fraction above = mirrored(g, feetSpot(g, c, 0)).y().minus(Fraction.whole(floor));
        return above.isBetween(Fraction.whole(-hand), Fraction.whole(hand));
    }

    private int clashes(Glass g, int c) {
        Spot ghost = mirrored(g, feetSpot(g, c, counts.get(c)[1]));
        int bits = 0;
        for (Map.Entry<Integer, Box> thing : things.entrySet()) {
            Box box = thing.getValue();
            if (ghost.x().isInside(Fraction.whole(box.fromX), Fraction.whole(box.toX))
                && ghost.y().isInside(Fraction.whole(box.fromY), Fraction.whole(box.toY))) {
                bits |= 1 << thing.getKey();
            }
        }
        return bits;
    }

    int count(int c, int what) {
        if (!in(c, 0, counts.size() - 1) || !in(what, 0, 6)) {
            return -1000;
        }
        int[] now = counts.get(c);
        int[] feet = feet(own, c, now[1]);
        return new int[] {now[0], now[1], now[2], feet[0], feet[1], bit(held(own, c)), clashes(own, c)}[what];
    }

    private boolean seesFace(Glass g, int s, int c) {
        return seats.containsKey(s) && in(c, 0, counts.size() - 1) && counts.get(c)[2] == 1
            && seesBy(g, seats.get(s), face(g, c));
    }

    private Spot face(Glass g, int c) {
        return feetSpot(g, c, counts.get(c)[1] + 8);
    }

    private boolean hasBy(Glass g, int s, int c) {
        return held(g, c) && clashes(g, c) == 0 && seesFace(g, s, c)
            && seesBy(g, seats.get(s), feetSpot(g, c, counts.get(c)[1]));
    }

    int has(int s, int c) {
        return seats.containsKey(s) && in(c, 0, counts.size() - 1) ? bit(hasBy(own, s, c)) : -1;
    }

    private int countsBy(Glass g, int s) {
        int sum = 0;
        for (int c = 0; c < counts.size(); c++) {
            sum += bit(hasBy(g, s, c));
        }
        return sum;
    }

    int counts(int s) {
        return seats.containsKey(s) ? countsBy(own, s) : -1;
    }

    private int houseBy(Glass g) {
        int sum = 0;
        for (int s : seats.keySet()) {
            sum += countsBy(g, s);
        }
        return sum;
    }

    int house() {
        return houseBy(own);
    }

    // ---- settings

    /** All SETTINGS by now; none if one can't be, or without a GRID. */
    private List<Glass> settings() {
        List<Glass> all = new ArrayList<>();
        for (int i = 0; steps != null && i < steps.n; i++) {
            for (int j = 0; j < steps.m; j++) {
                Glass g = new Glass(own.bx + i * steps.sx, own.by + i * steps.sy, own.deep + j * steps.sd);
                if (!places(g.bx, g.by) || g.bx == ax && g.by == ay || g.deep > 60) {
                    return new ArrayList<>();
                }
                all.add(g);
            }
        }
        return all;
    }

    int grid(int n, int sx, int sy, int m, int sd) {
        boolean can = in(n, 1, 6) && in(m, 1, 6) && in(sx, -20, 20) && in(sy, -20, 20) && in(sd, 0, 20);
        steps = can ? new Steps(n, sx, sy, m, sd) : null;
        if (settings().isEmpty()) {
            steps = null;
        }
        return steps == null ? -1 : n * m;
    }

    int tried(int k) {
        List<Glass> all = settings();
        return in(k, 0, all.size() - 1) ? houseBy(all.get(k)) : -1;
    }

    int best() {
        List<Glass> all = settings();
        int best = -1;
        for (int k = all.size() - 1; k >= 0; k--) {
            if (best < 0 || houseBy(all.get(k)) >= houseBy(all.get(best))) {
                best = k;
            }
        }
        return best;
    }

    boolean take(int k) {
        List<Glass> all = settings();
        if (!in(k, 0, all.size() - 1)) {
            return false;
        }
        own = all.get(k);
        steps = null;
        return true;
    }

    // ---- joins

    private boolean isNearFace(int p, int near, List<Integer> faces) {
        for (int face : faces) {
            if (Math.abs(p - face) < near) {
                return true;
            }
        }
        return false;
    }

    private List<Integer> faces() {
        List<Integer> faces = new ArrayList<>();
        for (int s : seats.keySet()) {
            for (int c = 0; c < counts.size(); c++) {
                if (seesFace(own, s, c)) {
                    Spot eye = Spot.at(seats.get(s).x, seats.get(s).y);
                    faces.add(thousandth(own, meeting(own, eye, face(own, c))));
                }
            }
        }
        return faces;
    }

    int joins(int m, int j) {
        if (!in(m, 1, 1000) || !in(j, 0, 100)) {
            return -1;
        }
        List<Integer> faces = faces();
        int[] fewest = new int[1001];
        int[] next = new int[1001];
        for (int p = 999; p >= 0; p--) {
            fewest[p] = p + m >= 1000 ? 0 : 5000;
            for (int q = Math.min(999, p + m); q > p && p + m < 1000; q--) {
                if (!isNearFace(q, j, faces) && fewest[q] + 1 < fewest[p]) {
                    fewest[p] = fewest[q] + 1;
                    next[p] = q;
                }
            }
        }
        if (fewest[0] >= 5000) {
            return -2;
        }
        joins = new ArrayList<>();
        for (int p = 0; p + m < 1000; p = next[p]) {
            joins.add(next[p]);
        }
        return joins.size();
    }

    int join(int k) {
        return in(k, 0, joins.size() - 1) ? joins.get(k) : -1;
    }

    // ---- the book

    private int write(Act act) {
        acts.add(act);
        return acts.size();
    }

    int report(int s, int c, boolean saw) {
        return in(s, 0, 7) && in(c, 0, 240) && acts.size() < 100 ? write(new Act(s, c, saw, 0)) : -1;
    }

    private boolean isVoid(int act, int by) {
        for (int k = 1; k <= by; k++) {
            if (acts.get(k - 1).voids == act) {
                return true;
            }
        }
        return false;
    }

    int void_(int act) {
        if (!in(act, 1, acts.size()) || acts.get(act - 1).voids != 0 || isVoid(act, acts.size())) {
            return -1;
        }
        return acts.size() < 100 ? write(new Act(0, 0, false, act)) : -1;
    }

    private int quarrelsBy(Glass g, int known) {
        int sum = 0;
        for (int k = 1; k <= known; k++) {
            Act act = acts.get(k - 1);
            if (act.voids == 0 && !isVoid(k, known)) {
                sum += bit(seesFace(g, act.seat, act.count) != act.saw);
            }
        }
        return sum;
    }

    int quarrels(int k, int act) {
        List<Glass> all = settings();
        int known = act == -1 ? acts.size() : act;
        return in(k, 0, all.size() - 1) && in(known, 0, acts.size()) ? quarrelsBy(all.get(k), known) : -1;
    }

    int likely(int act) {
        int known = act == -1 ? acts.size() : act;
        if (!in(known, 0, acts.size())) {
            return -1;
        }
        List<Glass> all = settings();
        int likely = -1;
        for (int k = all.size() - 1; k >= 0; k--) {
            if (likely < 0 || quarrelsBy(all.get(k), known) <= quarrelsBy(all.get(likely), known)) {
                likely = k;
            }
        }
        return likely;
    }

    int since() {
        int last = likely(-1);
        if (last < 0) {
            return -1;
        }
        int since = acts.size();
        for (int act = acts.size(); act >= 0 && likely(act) == last; act--) {
            since = act;
        }
        return since;
    }

    int all(int what) {
        int settings = steps == null ? 0 : steps.n * steps.m;
        int[] sums = {seats.size(), walls.size(), things.size(), acts.size(), settings, counts.size() - 1};
        return in(what, 0, 5) ? sums[what] : -1;
    }
}
