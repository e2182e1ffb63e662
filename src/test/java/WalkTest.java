/** Promises 17 to 19: the text, its faults, and what is so at a count. */
public final class WalkTest {
    private static final Due DUE = new Due("WalkTest");

    public static void main(String[] args) {
        statements();
        counts();
        figures();
        walkAfterWalk();
        blanks();
        wrongBytes();
        endsTooSoon();
        wrongNumbers();
        wrongNames();
        tooMany();
        tooLong();
        firstFault();
        faultCalls();
        countCalls();
        DUE.end();
    }

    private static void spots(String text, int... spots) {
        GhostPane x = new GhostPane();
        DUE.walks(x, text, spots.length - 1);
        for (int c = 0; c < spots.length; c++) {
            DUE.is("spot " + c + " of " + text, x.count(c, 0), spots[c]);
        }
    }

    private static void heights(String text, int... heights) {
        GhostPane x = new GhostPane();
        DUE.walks(x, text, heights.length - 1);
        for (int c = 0; c < heights.length; c++) {
            DUE.is("height " + c + " of " + text, x.count(c, 1), heights[c]);
        }
    }

    private static void lights(String text, int... lights) {
        GhostPane x = new GhostPane();
        DUE.walks(x, text, lights.length - 1);
        for (int c = 0; c < lights.length; c++) {
            DUE.is("light " + c + " of " + text, x.count(c, 2), lights[c]);
        }
    }

    private static void statements() {
        spots("", 0);
        spots("at 1000;", 1000);
        spots("at 0;", 0);
        spots("stay 2;", 0, 0, 0);
        spots("go to 10 in 3;", 0, 3, 6, 10);
        spots("at 10; go to 0 in 3;", 10, 6, 3, 0);
        spots("go to 7 in 1; stay 1; go to 7 in 2;", 0, 7, 7, 7, 7);
        spots("at 5; at 6; stay 1; at 7;", 6, 7);
        spots("stay 1; at 7; stay 1; at 8; go to 9 in 1;", 0, 7, 8, 9);
        spots("repeat 0 [ stay 5; at 3; ];", 0);
        spots("repeat 3 [ stay 1; ];", 0, 0, 0, 0);
        spots("repeat 20 [ at 3; ]; stay 1;", 3, 3);
        spots("repeat 2 [ go to 4 in 2; at 1; ];", 0, 2, 1, 2, 1);
        spots("repeat 2 [ repeat 2 [ stay 1; at 9; ]; at 2; ];", 0, 9, 2, 9, 2);
        spots("repeat 1 [ ]; repeat 2 [repeat 3 [];];", 0);
        heights("rise 8 in 4;", 0, 6, 8, 6, 0);
        heights("rise 1 in 2;", 0, 1, 0);
        heights("rise 1 in 3;", 0, 0, 0, 0);
        heights("rise 40 in 3; stay 1;", 0, 35, 35, 0, 0);
        heights("rise 40 in 2; rise 40 in 2;", 0, 40, 0, 40, 0);
        lights("light off;", 0);
        lights("light off; light on;", 1);
        lights("stay 1; light off; stay 2; light on; rise 2 in 2; light off;", 1, 0, 0, 1, 1, 0);
        spots("at 9; rise 8 in 2; light off; stay 1;", 9, 9, 9, 9);
        GhostPane x = new GhostPane();
        DUE.walks(x, "go to 1000 in 200;", 200);
        DUE.walks(x, "rise 40 in 40;", 40);
        DUE.walks(x, "stay 200;", 200);
        DUE.walks(x, "stay 0001; at 0000;", 1);
    }

    /** The FEET: each coordinate goes down to a whole number by itself. */
    private static void counts() {
        GhostPane x = new GhostPane();
        x.board(10, 20, -11, 23);
        x.heights(0, 4, 7);
        Due.walk(x, "go to 1000 in 2; at 100; rise 5 in 2;");
        DUE.is("x at 0", x.count(0, 3), 10);
        DUE.is("y at 0", x.count(0, 4), 13);
        DUE.is("x at half, down", x.count(1, 3), 10 - 11);
        DUE.is("y at half, down", x.count(1, 4), 13 + 1);
        DUE.is("x at a tenth", x.count(2, 3), 10 - 3);
        DUE.is("y at a tenth", x.count(2, 4), 13);
        DUE.is("x in the rise", x.count(3, 3), 10 - 3);
        DUE.is("y in the rise", x.count(3, 4), 13 + 5);
        DUE.is("y after it", x.count(4, 4), 13);
        x.board(0, -100, 1, 100);
        x.heights(0, 4, 0);
        Due.walk(x, "go to 5 in 1; at 5; go to 10 in 5; go to 995 in 1;");
        DUE.is("200 at 5 thousandths", x.count(1, 4), -99);
        DUE.is("200 at 9 thousandths", x.count(5, 4), -99);
        DUE.is("200 at 10 thousandths", x.count(6, 4), -98);
        DUE.is("200 at 995 thousandths", x.count(7, 4), 99);
        DUE.is("1 at 995 thousandths", x.count(7, 3), 0);
    }

    private static void figures() {
        spots("figure a [ stay 5; at 3; ];", 0);
        spots("figure a [ stay 1; at 3; ]; do a;", 0, 3);
        spots("figure a [ at 3; ]; figure b [ stay 1; do a; do a; ]; do b; at 1; repeat 2 [ do b; ];", 0, 1, 3, 3);
        spots("figure a [ ]; do a; at 2;", 2);
        spots("figure at [ at 5; ]; figure do [ do at; ]; do do;", 5);
        spots("figure a [ at 5; ]; figure A [ at 6; ]; do a;", 5);
        spots("figure abcdef [ at 5; ]; figure abcde [ at 6; ]; do abcdef;", 5);
        spots("figure a [ stay 1; ]; do a; figure b [ do a; at 4; do a; ]; do b;", 0, 0, 4, 4);
        spots("figure a [ repeat 0 [ at 5; ]; ]; at 2; do a;", 2);
        spots("figure az [ at 5; ]; figure AZ [ at 6; ]; figure zA [ at 7; ]; do AZ;", 6);
        spots("figure ab [ at 5; ]; figure cb [ at 6; ]; do ab;", 5);
        lights("figure a [ light off; ]; stay 1; do a; stay 1;", 1, 0, 0);
        spots("figure a [ repeat 2 [ stay 1; ]; ]; repeat 2 [ do a; at 7; ]; do a;", 0, 0, 7, 7, 7, 7, 7);
        GhostPane x = new GhostPane();
        DUE.walks(x, "figure a [ stay 200; stay 200; ]; stay 1;", 1);
        DUE.walks(x, "figure a [ stay 200; stay 200; ]; repeat 0 [ do a; ];", 0);
    }

    private static void walkAfterWalk() {
        GhostPane x = new GhostPane();
        DUE.walks(x, "at 5; light off; rise 40 in 2;", 2);
        DUE.walks(x, "stay 2;", 2);
        for (int c = 0; c <= 2; c++) {
            DUE.is("spot", x.count(c, 0), 0);
            DUE.is("height", x.count(c, 1), 0);
            DUE.is("light", x.count(c, 2), 1);
        }
        DUE.walks(x, "repeat 2[ light off; ];", 0);
        DUE.walks(x, "repeat 2[ at 3; ];", 0);
        DUE.is("spot", x.count(0, 0), 3);
        DUE.is("light", x.count(0, 2), 1);
        DUE.walks(x, "repeat 2[ light off; ];", 0);
        DUE.is("spot", x.count(0, 0), 0);
        DUE.is("light", x.count(0, 2), 0);
    }

    private static void blanks() {
        GhostPane x = new GhostPane();
        DUE.walks(x, "  \n ", 0);
        DUE.walks(x, "at 5;stay 3;repeat 2[stay 1;];figure a[stay 1;];do a;", 6);
        DUE.walks(x, "\nat\n5\n;stay  3 ; repeat\n2\n[\nstay\n1\n;\n]\n;\n", 5);
        DUE.walks(x, "figure a[];do a;", 0);
        DUE.fails(x, "at5;", 1, 2);
        DUE.fails(x, "stay1;", 1, 4);
        DUE.fails(x, "go to5 in 3;", 1, 5);
        DUE.fails(x, "go to 5in 3;", 1, 7);
        DUE.fails(x, "go to 5 in3;", 1, 10);
        DUE.fails(x, "goto 5 in 3;", 1, 0);
        DUE.fails(x, "rise 5in 3;", 1, 6);
        DUE.fails(x, "lighton;", 1, 0);
        DUE.fails(x, "doa;", 1, 0);
        DUE.fails(x, "figurea [ ];", 1, 0);
        DUE.fails(x, "repeat2 [ ];", 1, 6);
        DUE.fails(x, "at\t5;", 1, 2);
        DUE.fails(x, "at 5;\r\n", 1, 5);
    }

    private static void wrongBytes() {
        GhostPane x = new GhostPane();
        DUE.fails(x, ";", 1, 0);
        DUE.fails(x, "at 5;;", 1, 5);
        DUE.fails(x, "at 5; 7;", 1, 6);
        DUE.fails(x, "at 5; [", 1, 6);
        DUE.fails(x, "]", 1, 0);
        DUE.fails(x, "at 5; ];", 1, 6);
        DUE.fails(x, "repeat 1 [ at 5 ];", 1, 16);
        DUE.fails(x, "repeat 1 [ at 5; ] at 6;", 1, 19);
        DUE.fails(x, "repeat 1 [ at 5; ]; ];", 1, 20);
        DUE.fails(x, "repeat 1 at 5;", 1, 9);
        DUE.fails(x, "repeat [ at 5; ];", 1, 7);
        DUE.fails(x, "repeat 1 ];", 1, 9);
        DUE.fails(x, "At 5;", 1, 0);
        DUE.fails(x, "att 5;", 1, 0);
        DUE.fails(x, "a 5;", 1, 0);
        DUE.fails(x, "at x;", 1, 3);
        DUE.fails(x, "at -5;", 1, 3);
        DUE.fails(x, "at 5 6;", 1, 5);
        DUE.fails(x, "at 5x;", 1, 4);
        DUE.fails(x, "at 5 in;", 1, 5);
        DUE.fails(x, "go 5;", 1, 3);
        DUE.fails(x, "go too 5 in 3;", 1, 3);
        DUE.fails(x, "go to 5 on 3;", 1, 8);
        DUE.fails(x, "light up;", 1, 6);
        DUE.fails(x, "light of;", 1, 6);
        DUE.fails(x, "light 1;", 1, 6);
        DUE.fails(x, "do 1;", 1, 3);
        DUE.fails(x, "do ;", 1, 3);
        DUE.fails(x, "figure 1 [ ];", 1, 7);
        DUE.fails(x, "figure [ ];", 1, 7);
        DUE.fails(x, "figure a1 [ ];", 1, 8);
        DUE.fails(x, "figure a at 5;", 1, 9);
        DUE.fails(x, "repeat 1 [ figure a [ ]; ];", 1, 11);
        DUE.fails(x, "figure a [ figure b [ ]; ];", 1, 11);
        DUE.fails(x, "stay 12345;", 1, 9);
        DUE.fails(x, "stay 00001;", 1, 9);
        DUE.fails(x, "stay 1234567;", 1, 9);
        DUE.fails(x, "figure abcdefg [ ];", 1, 13);
        DUE.fails(x, "do abcdefgh;", 1, 9);
        DUE.fails(x, "at 5; \u00e9", 1, 6);
        DUE.fails(x, "at \u00ff;", 1, 3);
        DUE.fails(x, "at 5\0;", 1, 4);
    }

    private static void endsTooSoon() {
        GhostPane x = new GhostPane();
        DUE.fails(x, "at", 1, 2);
        DUE.fails(x, "at ", 1, 3);
        DUE.fails(x, "at 5", 1, 4);
        DUE.fails(x, "at 5  ", 1, 6);
        DUE.fails(x, "go", 1, 2);
        DUE.fails(x, "go to", 1, 5);
        DUE.fails(x, "go to 5", 1, 7);
        DUE.fails(x, "go to 5 in", 1, 10);
        DUE.fails(x, "go to 5 in 3", 1, 12);
        DUE.fails(x, "light ", 1, 6);
        DUE.fails(x, "light on", 1, 8);
        DUE.fails(x, "repeat 1", 1, 8);
        DUE.fails(x, "repeat 1 [", 1, 10);
        DUE.fails(x, "repeat 1 [ at 5;", 1, 16);
        DUE.fails(x, "repeat 1 [ at 5; ]", 1, 18);
        DUE.fails(x, "figure", 1, 6);
        DUE.fails(x, "figure a", 1, 8);
        DUE.fails(x, "figure a [ ] ", 1, 13);
        DUE.fails(x, "do ", 1, 3);
        DUE.fails(x, "sta", 1, 0);
        DUE.fails(x, "light o", 1, 6);
    }

    private static void wrongNumbers() {
        GhostPane x = new GhostPane();
        DUE.fails(x, "at 1001;", 2, 3);
        DUE.fails(x, "at   9999;", 2, 5);
        DUE.fails(x, "go to 1001 in 3;", 2, 6);
        DUE.fails(x, "go to 5 in 0;", 2, 11);
        DUE.fails(x, "go to 5 in 201;", 2, 11);
        DUE.fails(x, "stay 0;", 2, 5);
        DUE.fails(x, "stay 0000;", 2, 5);
        DUE.fails(x, "stay 201;", 2, 5);
        DUE.fails(x, "rise 0 in 2;", 2, 5);
        DUE.fails(x, "rise 41 in 2;", 2, 5);
        DUE.fails(x, "rise 40 in 1;", 2, 11);
        DUE.fails(x, "rise 40 in 41;", 2, 11);
        DUE.fails(x, "repeat 21 [ ];", 2, 7);
        DUE.fails(x, "at 1001", 2, 3);
        DUE.fails(x, "at 1001x", 2, 3);
    }

    private static void wrongNames() {
        GhostPane x = new GhostPane();
        DUE.fails(x, "do a;", 3, 3);
        DUE.fails(x, "do  abcdef;", 3, 4);
        DUE.fails(x, "figure a [ ]; figure a [ ];", 3, 21);
        DUE.fails(x, "figure a [ do a; ];", 3, 14);
        DUE.fails(x, "figure a [ do b; ]; figure b [ ];", 3, 14);
        DUE.fails(x, "do a; figure a [ ];", 3, 3);
        DUE.fails(x, "figure ab [ ]; do a;", 3, 18);
        DUE.fails(x, "figure a [ ]; do ab;", 3, 17);
        DUE.fails(x, "figure a [ ]; do A;", 3, 17);
        DUE.fails(x, "repeat 0 [ do a; ];", 3, 14);
        DUE.walks(x, "figure a [ ];", 0);
        DUE.fails(x, "do a;", 3, 3);
    }

    private static String repeated(String text, int many) {
        StringBuilder all = new StringBuilder();
        for (int k = 0; k < many; k++) {
            all.append(text);
        }
        return all.toString();
    }

    private static void tooMany() {
        GhostPane x = new GhostPane();
        DUE.walks(x, repeated("repeat 1[", 6) + "stay 1;" + repeated("];", 6), 1);
        DUE.fails(x, repeated("repeat 1[", 7) + "stay 1;" + repeated("];", 7), 4, 62);
        DUE.walks(x, "figure a[" + repeated("repeat 1[", 5) + "stay 1;" + repeated("];", 6) + "do a;", 1);
        DUE.fails(x, "figure a[" + repeated("repeat 1[", 6), 4, 62);
        DUE.walks(x, repeated("repeat 1[];", 9), 0);
        DUE.walks(x, repeated(repeated("repeat 1[", 6) + repeated("];", 6), 2), 0);
        StringBuilder twelve = new StringBuilder();
        for (char name = 'a'; name <= 'l'; name++) {
            twelve.append("figure ").append(name).append("[stay 1;];");
        }
        DUE.walks(x, twelve + "do l; do a;", 2);
        DUE.fails(x, twelve + " figure m[];", 4, twelve.length() + 1);
        DUE.fails(x, twelve + "figure a[];", 4, twelve.length());
        DUE.fails(x, twelve + "figure", 4, twelve.length());
        DUE.fails(x, twelve + "repeat 1[figure m[];];", 1, twelve.length() + 9);
    }

    private static void tooLong() {
        GhostPane x = new GhostPane();
        DUE.walks(x, "stay 200; stay 40;", 240);
        DUE.fails(x, "stay 200; stay 41;", 5, 18);
        DUE.fails(x, "stay 200; stay 41;  ", 5, 20);
        DUE.walks(x, "repeat 12 [ stay 20; ];", 240);
        DUE.fails(x, "repeat 12 [ stay 20; ]; rise 1 in 2;", 5, 36);
        DUE.fails(x, "stay 200; stay 200; x", 1, 20);
        DUE.fails(x, "stay 200; stay 200; at 1001;", 2, 23);
        DUE.fails(x, "repeat 20 [ repeat 20 [ stay 1; ]; ];", 5, 37);
        DUE.fails(x, repeated("repeat 20[", 6) + "stay 200;" + repeated("];", 6), 5, 81);
        DUE.walks(x, "repeat 0[" + repeated("repeat 20[", 5) + "stay 200;" + repeated("];", 6) + "stay 3;", 3);
        DUE.is("the walk before stays", x.count(3, 0), 0);
        DUE.fails(x, "at 77; stay 200; stay 41;", 5, 25);
        DUE.is("the walk before stays", x.count(0, 0), 0);
        DUE.is("the walk before stays", x.all(5), 3);
    }

    private static void firstFault() {
        GhostPane x = new GhostPane();
        DUE.fails(x, "at 1001; x", 2, 3);
        DUE.fails(x, "x; at 1001;", 1, 0);
        DUE.fails(x, "do a; at 1001;", 3, 3);
        DUE.fails(x, "repeat 21 x", 2, 7);
        DUE.fails(x, "stay 12345", 1, 9);
        DUE.fails(x, "repeat 99[" + repeated("repeat 1[", 6), 2, 7);
    }

    private static void faultCalls() {
        GhostPane x = new GhostPane();
        DUE.is("fault(2)", x.fault(2), -1);
        DUE.is("fault(-1)", x.fault(-1), -1);
        DUE.fails(x, "at 1001;", 2, 3);
        DUE.is("fault(2)", x.fault(2), -1);
        DUE.is("fault(0) again", x.fault(0), 2);
        Due.type(x, "stay 1;");
        DUE.is("fault(0) ahead of the next walk()", x.fault(0), 2);
        DUE.is("walk", x.walk(), 1);
        DUE.is("fault(0) after it", x.fault(0), 0);
        DUE.is("fault(1) after it", x.fault(1), -1);
        DUE.is("walk of what is left", x.walk(), 0);
        DUE.fails(x, "at 1001;", 2, 3);
        DUE.is("the tape goes with a fault too", x.walk(), 0);
    }

    private static void countCalls() {
        GhostPane x = new GhostPane();
        Due.walk(x, "stay 2;");
        for (int what = 0; what <= 6; what++) {
            DUE.is("count -1", x.count(-1, what), -1000);
            DUE.is("count 3", x.count(3, what), -1000);
        }
        DUE.is("what -1", x.count(0, -1), -1000);
        DUE.is("what 7", x.count(0, 7), -1000);
        DUE.is("count 2", x.count(2, 2), 1);
        Due.walk(x, "stay 1;");
        DUE.is("count 2 of a shorter walk", x.count(2, 0), -1000);
    }
}
