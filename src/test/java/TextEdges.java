/** Edges of promises 17 and 18: the text, its numbers, and its faults with their places. */
final class TextEdges {
    private TextEdges() {
    }

    static void rows(Edge edge) {
        walk(edge);
        walkBeforeStays(edge);
        fault(edge);
        wrongBytes(edge);
        wordsAndNumbers(edge);
        endsTooSoon(edge);
        numbers(edge);
        longNumbers(edge);
        names(edge);
        longNames(edge);
        open(edge);
        figures(edge);
        tooLong(edge);
        firstAlong(edge);
        fullTape(edge);
    }

    private static void walk(Edge edge) {
        edge.about(17, "walk");
        GhostPane x = new GhostPane();
        edge.is("of an empty tape", x.walk(), 0);
        edge.walks(x, "", 0);
        edge.walks(x, " \n", 0);
        edge.walks(x, "stay 1;", 1);
        edge.is("the tape goes", x.end(1), false);
        edge.is("an empty text behind it", x.walk(), 0);
        edge.is("count 0 alone again", x.count(1, 0), -1000);
        edge.walks(x, "stay 200; stay 40;", 240);
        edge.is("the last count", x.count(240, 2), 1);
        edge.is("none behind it", x.count(241, 2), -1000);
        edge.walks(x, "repeat 20 [ stay 12; ];", 240);
        edge.walks(x, "stay 3;", 3);
        edge.is("a shorter one", x.count(4, 0), -1000);
        edge.walks(x, "figure a [ stay 200; stay 200; ];", 0);
        edge.walks(x, "repeat 0 [ stay 200; stay 200; ]; stay 2;", 2);
        edge.walks(x, "figure a[ at 7; light off; ]; at 9;", 0);
        edge.is("a FIGURE told alone does nothing", x.count(0, 0), 9);
        edge.is("a FIGURE told alone does nothing", x.count(0, 2), 1);
    }

    /** The stage's latest FAULT is that of this text, so the tape alone may be another one. */
    private static void walkBeforeStays(Edge edge) {
        GhostPane kept = Stage.full();
        kept.end(0);
        GhostPane x = Stage.full();
        edge.is("NONE with a FAULT", Due.walk(x, "at 1001;"), -1);
        edge.same("THE WALK before, and all else", Readout.of(x), Readout.of(kept));
        String[] faults = {"at 5; x", "at 5; stay 9; at 1001;", "at 5; do a;", "at 5; repeat 1[".repeat(7),
            "at 5; light off; stay 200; stay 41;", "at 5; stay 9"};
        int[] kinds = {1, 2, 3, 4, 5, 1};
        for (int k = 0; k < faults.length; k++) {
            GhostPane y = new GhostPane();
            Due.walk(y, "at 77; stay 3; go to 78 in 1;");
            edge.is("NONE with " + faults[k], Due.walk(y, faults[k]), -1);
            edge.is("its FAULT", y.fault(0), kinds[k]);
            edge.is("the tape goes", y.end(1), false);
            edge.is("the last count stays", y.all(5), 4);
            edge.is("count 0 stays", y.count(0, 0), 77);
            edge.is("its light stays", y.count(0, 2), 1);
            edge.is("count 4 stays", y.count(4, 0), 78);
        }
    }

    private static void fault(Edge edge) {
        edge.about(18, "fault");
        for (int what : new int[] {-1, 2, Integer.MIN_VALUE, Integer.MAX_VALUE}) {
            edge.refuses("what " + what, x -> x.fault(what), -1);
        }
        edge.leaves("asked alone", x -> x.fault(0));
        edge.leaves("asked alone", x -> x.fault(1));
        GhostPane x = new GhostPane();
        edge.is("ahead of any", x.fault(0), 0);
        edge.is("ahead of any, its place", x.fault(1), -1);
        edge.fails(x, "at 1001;", 2, 3);
        Due.type(x, "x");
        edge.is("of the latest walk(), not of the tape", x.fault(0), 2);
        edge.is("of the latest walk(), not of the tape", x.fault(1), 3);
        edge.fails(x, "x", 1, 0);
        edge.is("of a walk() without", x.walk(), 0);
        edge.is("0 without", x.fault(0), 0);
        edge.is("NONE without", x.fault(1), -1);
    }

    private static void wrongBytes(Edge edge) {
        GhostPane x = new GhostPane();
        for (int sign = 0; sign <= 255; sign++) {
            boolean blank = sign == 10 || sign == 32;
            String text = "at 5; " + (char) sign;
            if (blank) {
                edge.walks(new GhostPane(), text, 0);
            } else {
                edge.fails(new GhostPane(), text, 1, 6);
            }
        }
        edge.fails(x, ";", 1, 0);
        edge.fails(x, "at 5;;", 1, 5);
        edge.fails(x, "]", 1, 0);
        edge.fails(x, "[", 1, 0);
        edge.fails(x, "repeat 1 [ ]; ]", 1, 14);
        edge.fails(x, "repeat 1 [ ] stay 1;", 1, 13);
        edge.fails(x, "repeat 1 [ ; ];", 1, 11);
        edge.fails(x, "repeat 1 [ stay 1 ];", 1, 18);
        edge.fails(x, "repeat [ ];", 1, 7);
        edge.fails(x, "repeat 1 ;", 1, 9);
        edge.fails(x, "at 5 5;", 1, 5);
        edge.fails(x, "at -1;", 1, 3);
        edge.fails(x, "go 5 in 1;", 1, 3);
        edge.fails(x, "go to in 1;", 1, 6);
        edge.fails(x, "go to 5 1;", 1, 8);
        edge.fails(x, "rise 5;", 1, 6);
        edge.fails(x, "rise 5 to 2;", 1, 7);
        edge.fails(x, "light;", 1, 5);
        edge.fails(x, "light 1;", 1, 6);
        edge.fails(x, "do;", 1, 2);
        edge.fails(x, "do 1;", 1, 3);
        edge.fails(x, "figure [ ];", 1, 7);
        edge.fails(x, "figure a ;", 1, 9);
        edge.fails(x, "repeat 1 [ figure a [ ]; ];", 1, 11);
        edge.fails(x, "figure a [ figure b [ ]; ];", 1, 11);
    }

    private static void wordsAndNumbers(Edge edge) {
        GhostPane x = new GhostPane();
        edge.walks(x, "go\nto\n5\nin\n1\n;", 1);
        edge.walks(x, "go to 5 in 1;rise 1 in 2;light on;light off;repeat 1[stay 1;];figure a[];do a;", 4);
        edge.walks(x, "  repeat  1  [  stay  1  ;  ]  ;  figure  a  [  ]  ;  do  a  ;  ", 1);
        edge.fails(x, "at5;", 1, 2);
        edge.fails(x, "stay1;", 1, 4);
        edge.fails(x, "repeat1[];", 1, 6);
        edge.fails(x, "go to5 in 1;", 1, 5);
        edge.fails(x, "go to 5in 1;", 1, 7);
        edge.fails(x, "go to 5 in1;", 1, 10);
        edge.fails(x, "rise 1in 2;", 1, 6);
        edge.fails(x, "goto 5 in 1;", 1, 0);
        edge.fails(x, "lighton;", 1, 0);
        edge.fails(x, "figurea[];", 1, 0);
        edge.fails(x, "figure a[];doa;", 1, 11);
        edge.fails(x, "at 5x;", 1, 4);
        edge.fails(x, "stays 5;", 1, 0);
        edge.fails(x, "sta 5;", 1, 0);
        edge.fails(x, "Stay 5;", 1, 0);
        edge.fails(x, "stay 5; light onn;", 1, 14);
        edge.fails(x, "light of;", 1, 6);
    }

    /** Each beginning of these texts that ends too soon, be it within a blank or ahead of one. */
    private static void endsTooSoon(Edge edge) {
        GhostPane x = new GhostPane();
        String[] early = {"at", "at ", "at 5", "at 5 ", "go", "go ", "go to", "go to ", "go to 5", "go to 5 ", "go to 5 in",
            "go to 5 in ", "go to 5 in 1", "stay", "stay 1", "rise", "rise 1", "rise 1 ", "rise 1 in", "rise 1 in 2", "light",
            "light ", "light on", "light off", "repeat", "repeat ", "repeat 1", "repeat 1 ", "repeat 1[", "repeat 1[ ",
            "repeat 1[]", "repeat 1[stay 1;", "repeat 1[stay 1;]", "figure", "figure ", "figure a", "figure a ", "figure a[",
            "figure a[]", "figure abcdef", "do", "do ", "figure a[];do a", "figure a[];do a \n"};
        for (String text : early) {
            edge.fails(x, text, 1, text.length());
        }
        edge.fails(x, "stay 1;a", 1, 7);
    }

    private static void numberEdges(Edge edge, String ahead, String behind, int least, int most) {
        for (int value : new int[] {least, most}) {
            Due.walk(new GhostPane(), ahead + value + behind);
            GhostPane x = new GhostPane();
            edge.is(ahead + value + behind, Due.walk(x, ahead + value + behind) >= 0, true);
            edge.is(ahead + value + behind + ", no FAULT", x.fault(0), 0);
        }
        if (least > 0) {
            edge.fails(new GhostPane(), ahead + (least - 1) + behind, 2, ahead.length());
        }
        edge.fails(new GhostPane(), ahead + (most + 1) + behind, 2, ahead.length());
        edge.fails(new GhostPane(), ahead + "9999" + behind, 2, ahead.length());
    }

    private static void numbers(Edge edge) {
        numberEdges(edge, "at ", ";", 0, 1000);
        numberEdges(edge, "go to ", " in 1;", 0, 1000);
        numberEdges(edge, "go to 5 in ", ";", 1, 200);
        numberEdges(edge, "stay ", ";", 1, 200);
        numberEdges(edge, "rise ", " in 2;", 1, 40);
        numberEdges(edge, "rise 40 in ", ";", 2, 40);
        numberEdges(edge, "repeat ", "[stay 1;];", 0, 20);
        GhostPane x = new GhostPane();
        edge.fails(x, "rise 1 in 0;", 2, 10);
        edge.fails(x, "at \n 1001;", 2, 5);
        edge.fails(x, "at 1001", 2, 3);
        edge.fails(x, "at 1001 x", 2, 3);
    }

    private static void longNumbers(Edge edge) {
        GhostPane x = new GhostPane();
        edge.walks(x, "at 0000;", 0);
        edge.walks(x, "stay 0001;", 1);
        edge.walks(x, "repeat 0002[stay 02;];", 4);
        edge.fails(x, "at 00000;", 1, 7);
        edge.fails(x, "at 99999;", 1, 7);
        edge.fails(x, "at 10000", 1, 7);
        edge.fails(x, "stay 123456789;", 1, 9);
        edge.fails(x, "stay 0000;", 2, 5);
        edge.fails(x, "go to 00000 in 1;", 1, 10);
    }

    private static void names(Edge edge) {
        GhostPane x = new GhostPane();
        edge.walks(x, "figure a[stay 1;]; do a; do a;", 2);
        edge.walks(x, "figure a[stay 1;]; figure b[do a;do a;]; do b;", 2);
        edge.fails(x, "figure a[]; figure a[];", 3, 19);
        edge.fails(x, "figure a[]; figure b[]; figure a[];", 3, 31);
        edge.fails(x, "do a;", 3, 3);
        edge.fails(x, "do  a;", 3, 4);
        edge.fails(x, "figure a[ do a; ];", 3, 13);
        edge.fails(x, "figure a[ repeat 0[ do a; ]; ];", 3, 23);
        edge.fails(x, "figure a[ do b; ]; figure b[];", 3, 13);
        edge.fails(x, "do a; figure a[];", 3, 3);
        edge.fails(x, "repeat 0[ do a; ];", 3, 13);
        edge.fails(x, "figure a[]; do ab;", 3, 15);
        edge.fails(x, "figure ab[]; do a;", 3, 16);
        edge.fails(x, "figure ab[]; do ac;", 3, 16);
        edge.walks(x, "figure a[]; figure ab[]; figure ba[]; do ba;", 0);
        edge.walks(x, "figure at[stay 3;]; do at;", 3);
        edge.walks(x, "figure figure[stay 3;]; do figure;", 3);
        edge.walks(x, "figure azAZ[stay 2;]; do azAZ;", 2);
        edge.fails(x, "figure azAZ[]; do azaz;", 3, 18);
        edge.walks(x, "figure a[];", 0);
        edge.fails(x, "do a;", 3, 3);
        edge.fails(x, "do a", 3, 3);
        edge.fails(x, "do a1;", 3, 3);
    }

    private static void longNames(Edge edge) {
        GhostPane x = new GhostPane();
        edge.walks(x, "figure abcdef[stay 1;]; do abcdef;", 1);
        edge.fails(x, "figure abcdefg[];", 1, 13);
        edge.fails(x, "figure abcdef[]; do abcdefg;", 1, 26);
        edge.fails(x, "do abcdefg;", 1, 9);
        edge.fails(x, "do abcdef;", 3, 3);
        edge.fails(x, "figure abcdef[]; do abcdeg;", 3, 20);
        edge.fails(x, "figure abcdefg", 1, 13);
    }

    private static void open(Edge edge) {
        GhostPane x = new GhostPane();
        edge.walks(x, "repeat 1[".repeat(6) + "];".repeat(6), 0);
        edge.fails(x, "repeat 1[".repeat(7) + "];".repeat(7), 4, 62);
        edge.fails(x, "repeat 0[".repeat(7) + "];".repeat(7), 4, 62);
        edge.fails(x, "repeat 1[".repeat(6) + "repeat 1 [", 4, 63);
        edge.fails(x, "repeat 1[".repeat(6) + "repeat 1 ;", 1, 63);
        edge.fails(x, "repeat 1[".repeat(6) + "repeat 21 [", 2, 61);
        edge.walks(x, "repeat 1[".repeat(5) + "repeat 1[];repeat 1[stay 1;];" + "];".repeat(5), 1);
        edge.walks(x, "repeat 1[];".repeat(7), 0);
        edge.walks(x, "figure a[" + "repeat 1[".repeat(5) + "stay 1;" + "];".repeat(6) + "do a;", 1);
        edge.fails(x, "figure a[" + "repeat 1[".repeat(6) + "];".repeat(7), 4, 62);
        String inner = "figure a[" + "repeat 1[".repeat(5) + "stay 1;" + "];".repeat(6);
        edge.walks(x, inner + "repeat 2[".repeat(6) + "do a;" + "];".repeat(6), 64);
    }

    private static String twelve() {
        StringBuilder text = new StringBuilder();
        for (char name = 'a'; name <= 'l'; name++) {
            text.append("figure ").append(name).append("[stay 1;];");
        }
        return text.toString();
    }

    private static void figures(Edge edge) {
        GhostPane x = new GhostPane();
        String twelve = twelve();
        edge.walks(x, twelve + "do a;do l;", 2);
        edge.fails(x, twelve + "figure m[];", 4, twelve.length());
        edge.fails(x, twelve + "  figure m[];", 4, twelve.length() + 2);
        edge.fails(x, twelve + "figure a[];", 4, twelve.length());
        edge.fails(x, twelve + "figure", 4, twelve.length());
        edge.fails(x, twelve + "figure 7", 4, twelve.length());
        edge.fails(x, twelve + "do m;", 3, twelve.length() + 3);
        edge.walks(x, twelve, 0);
        edge.walks(x, twelve, 0);
    }

    private static void tooLong(Edge edge) {
        GhostPane x = new GhostPane();
        edge.walks(x, "stay 200;stay 40;", 240);
        edge.fails(x, "stay 200;stay 41;", 5, 17);
        edge.fails(x, "stay 200;stay 41; \n", 5, 19);
        edge.walks(x, "stay 200;rise 40 in 38;go to 9 in 2;", 240);
        edge.fails(x, "stay 200;rise 40 in 39;go to 9 in 2;", 5, 36);
        edge.walks(x, "repeat 20[repeat 12[stay 1;];];", 240);
        edge.fails(x, "repeat 20[repeat 12[stay 1;];];stay 1;", 5, 38);
        edge.fails(x, "repeat 20[repeat 13[stay 1;];];", 5, 31);
        edge.walks(x, "figure a[stay 120;];do a;do a;", 240);
        edge.fails(x, "figure a[stay 120;];do a;do a;stay 1;", 5, 37);
        edge.fails(x, "figure a[stay 121;];do a;do a;", 5, 30);
        edge.fails(x, "repeat 20[".repeat(6) + "stay 200;" + "];".repeat(6), 5, 81);
        edge.fails(x, "stay 200;stay 200;x", 1, 18);
        edge.fails(x, "stay 200;stay 200;at 1001;", 2, 21);
        edge.fails(x, "stay 200;stay 200;do a;", 3, 21);
        edge.fails(x, "stay 200;stay 200;stay 1", 1, 24);
        edge.walks(x, "figure a[stay 200;stay 200;];repeat 0[do a;];stay 1;", 1);
    }

    private static void firstAlong(Edge edge) {
        GhostPane x = new GhostPane();
        edge.fails(x, "at 1001; x", 2, 3);
        edge.fails(x, "x; at 1001;", 1, 0);
        edge.fails(x, "do a; at 1001; x", 3, 3);
        edge.fails(x, "at 1001; do a;", 2, 3);
        edge.fails(x, "go to 1001 in 0;", 2, 6);
        edge.fails(x, "go to 1001 on 0;", 2, 6);
        edge.fails(x, "repeat 21[".repeat(7), 2, 7);
        edge.fails(x, "figure a[]; figure a at", 3, 19);
    }

    private static void fullTape(Edge edge) {
        GhostPane x = new GhostPane();
        edge.walks(x, "stay 1; ".repeat(75), 75);
        edge.walks(x, "at 1;".repeat(120), 0);
        edge.fails(x, " ".repeat(599) + "x", 1, 599);
        edge.fails(x, " ".repeat(594) + "stay 1", 1, 600);
        edge.fails(x, "stay 200;stay 41;" + " ".repeat(583), 5, 600);
        edge.fails(x, "figure a[" + "at 1;".repeat(118) + "x", 1, 599);
        edge.walks(x, " ".repeat(600), 0);
        edge.fails(x, " ".repeat(598) + "do", 1, 600);
        edge.fails(x, "figure ab[];" + " ".repeat(583) + "do cd", 3, 598);
        edge.fails(x, "figure ab[];" + " ".repeat(583) + "do ab", 1, 600);
        Due.type(x, "stay 12;");
        x.end(3);
        edge.is("bytes behind the end are not read", x.walk(), -1);
        edge.is("bytes behind the end are not read", x.fault(1), 0);
        Due.type(x, "stay 12;");
        x.end(7);
        edge.is("bytes behind the end are not read", x.walk(), -1);
        edge.is("bytes behind the end are not read", x.fault(1), 7);
    }
}
