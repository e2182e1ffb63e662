import java.util.Random;

/** No call ever throws or fails to end: wild arguments, the dearest texts, the dearest room. */
public final class LimitsTest {
    private static final Due DUE = new Due("LimitsTest");
    private static final int[] WILD = {
        Integer.MIN_VALUE, Integer.MIN_VALUE + 1, -1000000, -1001, -1000, -241, -240, -201, -200, -101, -100, -61, -60, -51,
        -21, -20, -13, -9, -8, -7, -2, -1, 0, 1, 2, 3, 5, 6, 7, 8, 11, 12, 13, 20, 21, 50, 51, 60, 61, 100, 101, 200, 201,
        240, 241, 599, 600, 601, 999, 1000, 1001, 1000000, Integer.MAX_VALUE - 1, Integer.MAX_VALUE,
    };

    public static void main(String[] args) {
        for (int seed = 0; seed < 400; seed++) {
            wildRun(new Random(seed));
        }
        noCounts();
        manyCounts();
        deepest();
        longestText();
        dearestRoom();
        DUE.end();
    }

    private static int wild(Random random) {
        return random.nextInt(3) == 0 ? WILD[random.nextInt(WILD.length)] : random.nextInt(12);
    }

    /** What is thrown would end the test with another exit code than 0. */
    private static void wildRun(Random random) {
        GhostPane x = new GhostPane();
        for (int k = 0; k < 512; k++) {
            int a = wild(random);
            int b = wild(random);
            int c = wild(random);
            int d = wild(random);
            int e = wild(random);
            wildCall(x, random.nextInt(34), new int[] {a, b, c, d, e}, random.nextBoolean());
        }
        DUE.is("a run", x.all(6), -1);
    }

    private static void wildCall(GhostPane x, int which, int[] v, boolean so) {
        switch (which) {
            case 0: x.feed(v[0], v[1], v[2], v[3], v[4]); break;
            case 1: x.end(v[0]); break;
            case 2: x.pane(v[0], v[1], v[2], v[3]); break;
            case 3: x.board(v[0], v[1], v[2], v[3]); break;
            case 4: x.heights(v[0], v[1], v[2]); break;
            case 5: x.seat(v[0], v[1], v[2]); break;
            case 6: x.wall(v[0], v[1], v[2], v[3], v[4], so); break;
            case 7: x.thing(v[0], v[1], v[2], v[3], v[4]); break;
            case 8: x.gone(v[0], v[1]); break;
            case 9: x.of(v[0], v[1], v[2]); break;
            case 10: x.sees(v[0], v[1], v[2]); break;
            case 11: x.where(v[0], v[1], v[2]); break;
            case 12: x.blocks(v[0], v[1], v[2], v[3]); break;
            case 13: x.shows(v[0], v[1]); break;
            case 14: x.black(); break;
            case 15: x.walk(); break;
            case 16: x.fault(v[0]); break;
            case 17: x.count(v[0], v[1]); break;
            case 18: x.has(v[0], v[1]); break;
            case 19: x.counts(v[0]); break;
            case 20: x.house(); break;
            case 21: x.grid(v[0], v[1], v[2], v[3], v[4]); break;
            case 22: x.tried(v[0]); break;
            case 23: x.best(); break;
            case 24: x.take(v[0]); break;
            case 25: x.joins(v[0], v[1]); break;
            case 26: x.join(v[0]); break;
            case 27: x.report(v[0], v[1], so); break;
            case 28: x.void_(v[0]); break;
            case 29: x.quarrels(v[0], v[1]); break;
            case 30: x.likely(v[0]); break;
            case 31: x.since(); break;
            case 32: x.all(v[0]); break;
            default: Due.walk(x, "figure a[rise 9 in 4;];repeat 3[do a;light off;at 7;];light on;");
        }
    }

    private static String repeated(String text, int many) {
        return text.repeat(many);
    }

    /** Figures that do one another seven times each without a count: two thousand million steps, if told one by one. */
    private static void noCounts() {
        StringBuilder text = new StringBuilder("figure a[at 5;light off;];");
        for (char name = 'b'; name <= 'l'; name++) {
            text.append("figure ").append(name).append('[').append(repeated("do " + (char) (name - 1) + ";", 7)).append("];");
        }
        text.append("stay 1;do l;");
        GhostPane x = new GhostPane();
        DUE.walks(x, text.toString(), 1);
        DUE.is("spot 0", x.count(0, 0), 0);
        DUE.is("spot 1", x.count(1, 0), 5);
        DUE.is("light 1", x.count(1, 2), 0);
        String nested = repeated("repeat 20[", 5) + "at 9;" + repeated("];", 5);
        String twice = "figure a[" + nested + "];figure b[" + repeated("repeat 20[", 5) + "do a;" + repeated("];", 5)
            + "];repeat 20[do b;stay 1;do b;];";
        DUE.walks(x, twice, 20);
        DUE.is("spot 20", x.count(20, 0), 9);
        DUE.walks(x, repeated("repeat 20[", 6) + repeated("];", 6), 0);
    }

    /** More counts than a number holds. */
    private static void manyCounts() {
        GhostPane x = new GhostPane();
        StringBuilder text = new StringBuilder("figure a[stay 200;];");
        for (char name = 'b'; name <= 'k'; name++) {
            String twice = "do " + (char) (name - 1) + ";";
            text.append("figure ").append(name).append("[repeat 20[").append(repeated(twice, 4)).append("];];");
        }
        text.append("do k;");
        DUE.fails(x, text.toString(), 5, text.length());
        text.setLength(text.length() - 5);
        DUE.walks(x, text.toString(), 0);
        text.append("repeat 0[do k;];");
        DUE.walks(x, text.toString(), 0);
    }

    /** As many bodies open at once as 600 bytes have place for. */
    private static void deepest() {
        GhostPane x = new GhostPane();
        StringBuilder text = new StringBuilder("figure a[stay 1;];");
        char name = 'b';
        for (; text.length() + 71 <= 600 - 80; name++) {
            String what = "do " + (char) (name - 1) + ";";
            text.append("figure ").append(name).append('[').append(repeated("repeat 1[", 5)).append(what);
            text.append(repeated("];", 5)).append("];");
        }
        text.append(repeated("repeat 2[", 6)).append("do ").append((char) (name - 1)).append(';').append(repeated("];", 6));
        DUE.walks(x, text.toString(), 64);
    }

    private static void longestText() {
        GhostPane x = new GhostPane();
        DUE.walks(x, repeated("at 1;", 119) + "at 2;", 0);
        DUE.is("the last of 120", x.count(0, 0), 2);
        DUE.walks(x, "repeat 20[" + repeated("at 1;", 115) + "stay 9;];", 180);
        DUE.walks(x, repeated("stay 1; ", 75), 75);
        DUE.walks(x, repeated("repeat 1[stay 1;];", 33), 33);
        DUE.walks(x, repeated("repeat 1[at 7;];", 37), 0);
        DUE.is("the last", x.count(0, 0), 7);
        DUE.fails(x, repeated("x", 600), 1, 0);
        DUE.fails(x, "at " + repeated("1", 597), 1, 7);
        DUE.fails(x, "do " + repeated("a", 597), 1, 9);
        DUE.walks(x, repeated(" ", 600), 0);
        DUE.walks(x, "figure a[" + repeated("do b;", 0) + repeated("at 3;", 116) + "];do a;", 0);
        DUE.is("the last", x.count(0, 0), 3);
    }

    /** Eight seats, twelve walls, all counts, 36 settings and a full book, asked again and again. */
    private static void dearestRoom() {
        GhostPane x = new GhostPane();
        x.pane(0, -100, 0, 95);
        x.board(-40, 10, -10, 10);
        x.heights(10, 50, 0);
        for (int s = 0; s < 8; s++) {
            x.seat(s, -60 - s, 30 + s);
        }
        for (int w = 0; w < 12; w++) {
            x.wall(w, 50, w, 60, w + 1, w % 2 == 0);
        }
        x.thing(0, -100, 0, -100, 0);
        Due.walk(x, "go to 999 in 120; go to 1 in 120;");
        for (int k = 1; k <= 100; k++) {
            x.report(k % 8, 2 * k, true);
        }
        DUE.is("grid", x.grid(6, 0, 1, 6, 2), 36);
        for (int k = 0; k < 40; k++) {
            DUE.is("house", x.house(), 8 * 241);
            DUE.is("best", x.best(), 0);
            DUE.is("likely", x.likely(-1), 0);
            DUE.is("since", x.since(), 0);
            DUE.is("quarrels", x.quarrels(35, -1), 0);
            DUE.is("joins", x.joins(1, 0), 999);
        }
    }
}
