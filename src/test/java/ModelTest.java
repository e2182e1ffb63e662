import java.util.Random;

/** Random runs, each answer held against the Model's. */
public final class ModelTest {
    private static final Due DUE = new Due("ModelTest");
    private static final int[] EDGES = {-2, -1, 0, 1, 5, 6, 7, 8, 11, 12, 13, 100, 101, 240, 241};
    private final Random random;
    private final GhostPane pane = new GhostPane();
    private final Model model = new Model();
    private final int step;
    /** Small rooms have more places that meet. */
    private final int range;

    private ModelTest(long seed) {
        random = new Random(seed);
        step = new int[] {1, 5, 10, 20, 25}[random.nextInt(5)];
        range = step == 1 ? 2 + random.nextInt(6) : 100 / step;
    }

    public static void main(String[] args) {
        int runs = Integer.getInteger("runs", 250);
        long first = Long.getLong("seed", 1);
        for (int k = 0; k < runs; k++) {
            new ModelTest(first + k).run(first + k);
        }
        for (int k = 0; k < 40 * runs; k++) {
            text(new Random(first + k));
        }
        DUE.end();
    }

    private static void text(Random random) {
        String text = RandomText.make(random);
        ModelText due = new ModelText(text);
        if (due.fault == ModelText.TOO_LONG) {
            return;
        }
        GhostPane x = new GhostPane();
        if (due.fault != 0) {
            DUE.fails(x, text, due.fault, due.place);
            return;
        }
        DUE.walks(x, text, due.counts.size() - 1);
        for (int c = 0; c < due.counts.size(); c++) {
            for (int what = 0; what < 3; what++) {
                DUE.is("count(" + c + ", " + what + ") of \"" + text + "\"", x.count(c, what), due.counts.get(c)[what]);
            }
        }
    }

    private void run(long seed) {
        boolean staged = seed % 2 == 0;
        if (staged) {
            stage();
        } else {
            prepare();
        }
        for (int k = 0; k < 150; k++) {
            String call = "run " + seed + ", call " + k + ": ";
            if (staged && random.nextInt(4) == 0) {
                book(call);
            } else if (staged ? random.nextInt(12) == 0 : random.nextInt(3) == 0) {
                change(call);
            } else {
                ask(call);
            }
        }
    }

    private int place() {
        if (random.nextInt(60) == 0) {
            return random.nextBoolean() ? 101 : -101;
        }
        return step * (random.nextInt(2 * range + 1) - range);
    }

    private int farPlace() {
        if (random.nextInt(60) == 0) {
            return random.nextBoolean() ? 201 : -201;
        }
        return random.nextInt(step == 1 ? 20 : 4) == 0 ? random.nextInt(401) - 200 : place();
    }

    private int some(int many) {
        return random.nextInt(30) == 0 ? EDGES[random.nextInt(EDGES.length)] : random.nextInt(many);
    }

    /** A room in which something is seen most often. */
    private void prepare() {
        for (int s = 0; s < 3; s++) {
            seat("prepare: ");
            wall("prepare: ");
        }
        thing("prepare: ");
        walk("prepare: ");
        heights("prepare: ", 50);
        grid("prepare: ");
    }

    /** A room in which the settings of its grid differ in what is seen, if one is found soon. */
    private void stage() {
        for (int k = 0; k < 4; k++) {
            seat("stage: ");
        }
        walk("stage: ");
        for (int tries = 0; tries < 300; tries++) {
            glass("stage: ");
            heights("stage: ", 30);
            seat("stage: ");
            grid("stage: ");
            if (pane.all(4) > 1 && pane.tried(0) < pane.tried(1 + random.nextInt(pane.all(4) - 1))) {
                break;
            }
        }
        wall("stage: ");
    }

    private void change(String at) {
        switch (random.nextInt(12)) {
            case 0:
                seat(at);
                break;
            case 1:
            case 2:
                wall(at);
                break;
            case 3:
                thing(at);
                break;
            case 4: {
                int what = random.nextInt(4) - random.nextInt(2);
                int k = some(12);
                DUE.is(at + "gone", pane.gone(what, k), model.gone(what, k));
                break;
            }
            case 5:
                glass(at);
                break;
            case 6: {
                int a = place();
                int b = place();
                int c = place();
                int d = place();
                DUE.is(at + "board", pane.board(a, b, c, d), model.board(a, b, c, d));
                break;
            }
            case 7:
                heights(at, 60);
                break;
            case 8:
                walk(at);
                break;
            case 9:
                grid(at);
                break;
            default:
                book(at);
        }
    }

    private void glass(String at) {
        int a = place();
        int b = place();
        int c = place();
        int d = place();
        DUE.is(at + "pane", pane.pane(a, b, c, d), model.pane(a, b, c, d));
    }

    private void seat(String at) {
        int s = some(8);
        int x = place();
        int y = place();
        DUE.is(at + "seat", pane.seat(s, x, y), model.seat(s, x, y));
    }

    private void wall(String at) {
        int w = some(12);
        int a = place();
        int b = place();
        int c = random.nextInt(3) == 0 ? place() : Math.max(-100, Math.min(100, a + step * (random.nextInt(5) - 2)));
        int d = random.nextInt(3) == 0 ? place() : Math.max(-100, Math.min(100, b + step * (random.nextInt(5) - 2)));
        boolean pit = random.nextBoolean();
        DUE.is(at + "wall", pane.wall(w, a, b, c, d, pit), model.wall(w, a, b, c, d, pit));
    }

    private void thing(String at) {
        int t = some(8);
        int a = place();
        int b = place();
        int c = a + random.nextInt(Math.min(60, step * range));
        int d = b + random.nextInt(Math.min(60, step * range));
        DUE.is(at + "thing", pane.thing(t, a, c, b, d), model.thing(t, a, c, b, d));
    }

    private void heights(String at, int most) {
        int floor = place();
        int hand = random.nextInt(3) == 0 ? random.nextInt(52) - 1 : 50;
        int deep = random.nextInt(2) == 0 ? 0 : random.nextInt(most + 2);
        DUE.is(at + "heights", pane.heights(floor, hand, deep), model.heights(floor, hand, deep));
    }

    private void walk(String at) {
        String text = random.nextInt(3) == 0 ? RandomText.make(random) : "at 100; go to 900 in 4; rise 9 in 3; light off; at 0; stay 1; light on; go to 333 in 2;";
        if (new ModelText(text).fault == ModelText.TOO_LONG) {
            return;
        }
        byte[] bytes = text.getBytes(java.nio.charset.StandardCharsets.ISO_8859_1);
        for (int k = 0; k < bytes.length; k += 20) {
            int a = Due.number(bytes, k);
            int b = Due.number(bytes, k + 4);
            int c = Due.number(bytes, k + 8);
            int d = Due.number(bytes, k + 12);
            int e = Due.number(bytes, k + 16);
            DUE.is(at + "feed", pane.feed(a, b, c, d, e), model.feed(a, b, c, d, e));
        }
        int end = bytes.length + random.nextInt(40) / 39;
        DUE.is(at + "end", pane.end(end), model.end(end));
        DUE.is(at + "walk \"" + text + "\"", pane.walk(), model.walk());
    }

    private void grid(String at) {
        int n = 1 + some(4);
        int sx = random.nextInt(21) - 10;
        int sy = random.nextInt(21) - 10;
        int m = 1 + some(3);
        int sd = random.nextInt(5) == 0 ? random.nextInt(23) - 1 : random.nextInt(8);
        DUE.is(at + "grid", pane.grid(n, sx, sy, m, sd), model.grid(n, sx, sy, m, sd));
    }

    private void book(String at) {
        if (random.nextInt(3) == 0) {
            int act = random.nextInt(model.all(3) + 3) - 1;
            DUE.is(at + "void_", pane.void_(act), model.void_(act));
            return;
        }
        int s = some(8);
        int c = some(12);
        boolean saw = random.nextBoolean();
        DUE.is(at + "report", pane.report(s, c, saw), model.report(s, c, saw));
    }

    private void ask(String at) {
        int s = some(8);
        int w = some(12);
        int x = farPlace();
        int y = farPlace();
        int what = random.nextInt(9) - 1;
        int c = some(model.all(5) + 1);
        int k = some(Math.max(1, model.all(4)));
        int act = random.nextInt(model.all(3) + 3) - 2;
        switch (random.nextInt(22)) {
            case 0:
                DUE.is(at + "of", pane.of(x, y, what), model.of(x, y, what));
                break;
            case 1:
            case 2:
                DUE.is(at + "sees", pane.sees(s, x, y), model.sees(s, x, y));
                break;
            case 3:
                DUE.is(at + "where", pane.where(s, x, y), model.where(s, x, y));
                break;
            case 4:
            case 5: {
                int line = random.nextInt(30) == 0 ? 2 : random.nextInt(2);
                DUE.is(at + "blocks", pane.blocks(s, x, y, line), model.blocks(s, x, y, line));
                break;
            }
            case 6:
                DUE.is(at + "shows", pane.shows(w, s), model.shows(w, s));
                break;
            case 7:
                DUE.is(at + "black", pane.black(), model.black());
                break;
            case 8:
                DUE.is(at + "fault", pane.fault(what), model.fault(what));
                break;
            case 9:
            case 10:
                DUE.is(at + "count", pane.count(c, what), model.count(c, what));
                break;
            case 11:
                DUE.is(at + "has", pane.has(s, c), model.has(s, c));
                break;
            case 12:
                DUE.is(at + "counts", pane.counts(s), model.counts(s));
                break;
            case 13:
                DUE.is(at + "house", pane.house(), model.house());
                break;
            case 14:
                DUE.is(at + "tried", pane.tried(k), model.tried(k));
                break;
            case 15:
                if (model.all(5) < 30) {
                    DUE.is(at + "best", pane.best(), model.best());
                }
                break;
            case 16:
                if (random.nextInt(4) == 0) {
                    DUE.is(at + "take", pane.take(k), model.take(k));
                }
                break;
            case 17:
                joins(at);
                break;
            case 18:
                DUE.is(at + "quarrels", pane.quarrels(k, act), model.quarrels(k, act));
                break;
            case 19:
                DUE.is(at + "likely", pane.likely(act), model.likely(act));
                break;
            case 20:
                DUE.is(at + "since", pane.since(), model.since());
                break;
            default:
                DUE.is(at + "all", pane.all(what), model.all(what));
        }
    }

    private void joins(String at) {
        int m = random.nextInt(20) == 0 ? 1001 : 1 + random.nextInt(random.nextBoolean() ? 1000 : 300);
        int j = random.nextInt(20) == 0 ? 101 : random.nextInt(random.nextBoolean() ? 101 : 20);
        int many = model.joins(m, j);
        DUE.is(at + "joins", pane.joins(m, j), many);
        for (int k = -1; k <= many; k++) {
            DUE.is(at + "join", pane.join(k), model.join(k));
        }
        DUE.is(at + "join", pane.join(0), model.join(0));
    }
}
