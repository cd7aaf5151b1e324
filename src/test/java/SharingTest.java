/** Promises 38 to 46: who plays what; plays told, heard and drawn. */
public final class SharingTest {
    private static final Check CHECK = new Check("SharingTest");
    private static final String DESK = "desk cents 20 highest 8;";
    private static final String BUGLE = "bugle base 10 long 500;";
    private static final String HORN = "horn base 10 long 500 valves 61 30 95 draws 20;";
    private static final String SLIDE = "slide base 3 long 600 step 37;";

    private static String man(int brass, int quick) {
        return "player " + brass + " quick " + quick + " air 30 lips 999;";
    }

    public static void main(String[] args) {
        best();
        shared();
        judge();
        judgeRests();
        heard();
        cracks();
        clean();
        CHECK.finish();
    }

    private static void best() {
        LipsAndSlides x = Check.deskOf(DESK + BUGLE + HORN + "bugle base 17 long 500;" + man(0, 0) + man(1, 9) + man(1, 9)
                + man(2, 0) + "part;tone 34 for 1;tone 33 for 1;part;tone 29 for 1;part;tone 1 for 1;");
        CHECK.due("P38 of two horns the first", x.best(0), 1);
        CHECK.due("P38 of a bugle off by 2, drawn horns and a bugle off by 0", x.best(1), 1);
        CHECK.due("P38 nobody", x.best(2), -1);
        CHECK.due("P38 no such part", x.best(3), -2);
        CHECK.due("P38 part below 0", x.best(-1), -2);
        LipsAndSlides z = Check.deskOf(DESK + BUGLE + "bugle base 17 long 500;" + man(0, 0) + man(1, 0) + man(1, 0)
                + "part;tone 29 for 1;");
        CHECK.due("P38 the least sour", z.best(0), 1);
        LipsAndSlides y = Check.deskOf(DESK + HORN + "bugle base 14 long 500;" + man(0, 9) + man(1, 0)
                + "part;tone 33 for 1;tone 26 for 1;");
        CHECK.due("P38 cost of the horn, (5, 5) to (3, 4)", y.cost(0, 0), 1);
        CHECK.due("P38 cost of the bugle, -2 for 33 by 3", y.cost(1, 0), 0);
        CHECK.due("P38 cost ahead of number", y.best(0), 1);
    }

    private static void shared() {
        LipsAndSlides x = Check.deskOf(DESK + BUGLE + HORN + man(1, 9) + man(0, 0) + man(1, 9)
                + "part;tone 22 for 1;part;tone 34 for 1;tone 33 for 1;");
        // (0, 2), (1, 0), (1, 2), (2, 0) cost 1 each
        CHECK.due("P39 the least", x.shared(), 1);
        CHECK.due("P40 the first row, 0", x.given(0), 0);
        CHECK.due("P40 the first row, 1", x.given(1), 2);
        CHECK.due("P40 no such part", x.given(2), -2);
        CHECK.due("P40 part below 0", x.given(-1), -2);
        LipsAndSlides y = Check.deskOf(DESK + BUGLE + HORN + man(1, 9) + man(0, 0)
                + "part;tone 22 for 1;part;tone 34 for 1;tone 33 for 1;");
        CHECK.due("P39 each but one way", y.shared(), 1);
        CHECK.due("P40 who can't play the other", y.given(0), 1);
        CHECK.due("P40 who can", y.given(1), 0);
        LipsAndSlides z = Check.deskOf(DESK + BUGLE + man(0, 0) + man(0, 0) + "part;part;part;");
        CHECK.due("P39 too few players", z.shared(), -1);
        CHECK.due("P40 too few players", z.given(0), -1);
        LipsAndSlides w = Check.deskOf(DESK + BUGLE + man(0, 0) + man(0, 0) + man(0, 0) + "part;part;part;");
        CHECK.due("P39 nothing to play", w.shared(), 0);
        CHECK.due("P40 nothing to play, 2", w.given(2), 2);
        CHECK.due("P39 no parts", Check.deskOf(DESK).shared(), 0);
        CHECK.due("P39 no players", Check.deskOf(DESK + "part;").shared(), -1);
        CHECK.due("P40 no players", Check.deskOf(DESK + "part;").given(0), -1);
        CHECK.due("P39 no desk", new LipsAndSlides().shared(), -2);
        CHECK.due("P40 no desk", new LipsAndSlides().given(0), -2);
        LipsAndSlides v = Check.deskOf(DESK + BUGLE + man(0, 0) + "part;tone 23 for 1;");
        CHECK.due("P39 it can't be played", v.shared(), -1);
        leastAheadOfFirst();
    }

    private static void leastAheadOfFirst() {
        // 34 and 38 cost nothing by either, but only the horn plays 33
        LipsAndSlides x = Check.deskOf(DESK + HORN + BUGLE + man(0, 9) + man(1, 0) + "part;tone 34 for 1;tone 38 for 1;"
                + "part;tone 34 for 1;tone 33 for 1;");
        CHECK.due("P39 the horn is spared for the second", x.shared(), 1);
        CHECK.due("P40 bugle", x.given(0), 1);
        CHECK.due("P40 horn", x.given(1), 0);
    }

    private static void judge() {
        // 34: (4, 0), (5, 6); 33: (4, 2), (5, 5); one beat, quick 1: MOVE is 1 at most
        LipsAndSlides x = Check.deskOf(DESK + HORN + BUGLE + man(0, 1) + man(1, 1)
                + "part;tone 34 for 1;tone 33 for 1;rest 1;tone 34 for 1;part;tone 23 for 1;");
        CHECK.due("P41 nothing there", x.judge(0, 0, 0), -6);
        CHECK.due("P42 nothing there", x.told(0, 0, 0), -6);
        Check.rowOf(x, 0, 0, 0, 0, 0);
        CHECK.due("P41 all right", x.judge(0, 0, 0), 3);
        CHECK.due("P42 cost", x.told(0, 0, 0), 2);
        Check.rowOf(x, 0, 1, 1, 0, 1);
        CHECK.due("P41 not the best, but a play", x.judge(0, 0, 0), 3);
        CHECK.due("P42 its cost", x.told(0, 0, 0), 2);
        Check.rowOf(x, 0, 2, 0, 1, 0);
        CHECK.due("P41 hands", x.judge(0, 0, 0), 1);
        CHECK.due("P42 no play", x.told(0, 0, 0), -1);
        Check.rowOf(x, 0, 3, 0, 0, 2);
        CHECK.due("P41 no third way", x.judge(0, 0, 0), 2);
        Check.rowOf(x, 0, 3, -1, 0, 0);
        CHECK.due("P41 a way below 0", x.judge(0, 0, 0), 0);
        Check.rowOf(x, 0, 3, 1L << 32, 0, 0);
        CHECK.due("P41 a way far above", x.judge(0, 0, 0), 0);
        Check.rowOf(x, 0, 2, 1L << 32, 0, 0);
        CHECK.due("P41 that, cut", x.judge(0, 0, 0), 3);
        Check.rowOf(x, 0, 0, 0, 0);
        CHECK.due("P41 too few", x.judge(0, 0, 0), -7);
        CHECK.due("P42 too few", x.told(0, 0, 0), -7);
        Check.rowOf(x, 0, 0, 0);
        CHECK.due("P41 no way at all", x.judge(0, 1, 1), 0);
        CHECK.due("P42 no way at all", x.told(0, 1, 1), -1);
        CHECK.due("P41 no such slot", x.judge(4, 0, 0), -2);
        CHECK.due("P41 slot below 0", x.judge(-1, 0, 0), -2);
        CHECK.due("P41 no such player", x.judge(0, 2, 0), -2);
        CHECK.due("P41 no such part", x.judge(0, 0, 2), -2);
        CHECK.due("P41 no such part, nothing there", x.judge(1, 0, 2), -2);
        CHECK.due("P42 no such slot", x.told(4, 0, 0), -2);
        CHECK.due("P42 no such player", x.told(0, -1, 0), -2);
        CHECK.due("P42 no such part, nothing there", x.told(1, 0, -1), -2);
    }

    private static void judgeRests() {
        LipsAndSlides x = Check.deskOf(DESK + BUGLE + man(0, 0) + "part;rest 1;");
        x.row(0, 0, 0);
        CHECK.due("P41 rests alone", x.judge(0, 0, 0), 0);
        CHECK.due("P42 rests alone", x.told(0, 0, 0), 0);
        LipsAndSlides y = Check.deskOf(DESK + BUGLE + man(0, 0) + "part;tone 22 for 1 slurred;tone 34 for 1;");
        Check.rowOf(y, 0, 0, 0, 0);
        CHECK.due("P41 a slur", y.judge(0, 0, 0), 1);
        y.slur(0, 0, 0);
        CHECK.due("P41 no slur", y.judge(0, 0, 0), 2);
        CHECK.due("P42 no slur", y.told(0, 0, 0), 0);
    }

    private static void heard() {
        LipsAndSlides x = Check.deskOf(DESK + BUGLE + HORN + SLIDE);
        CHECK.due("P43 nothing there", x.heard(0), -6);
        x.row(0, 0, 0);
        CHECK.due("P43 an empty row fits all", x.heard(0), 7);
        Check.rowOf(x, 0, 0, 34, 0);
        CHECK.due("P43 bugle, horn and slide", x.heard(0), 7);
        Check.rowOf(x, 0, 0, 46, 0);
        CHECK.due("P43 bugle and horn", x.heard(0), 3);
        Check.rowOf(x, 0, 1, 34, 0, 33, 2);
        CHECK.due("P43 horn", x.heard(0), 2);
        Check.rowOf(x, 0, 2, 34, 6);
        CHECK.due("P43 horn by partial 5", x.heard(0), 2);
        Check.rowOf(x, 0, 3, 27, 4);
        CHECK.due("P43 slide by partial 5", x.heard(0), 4);
        Check.rowOf(x, 0, 3, 23, 0);
        CHECK.due("P43 none", x.heard(0), 0);
        Check.rowOf(x, 0, 3, 34, -1);
        CHECK.due("P43 no setting", x.heard(0), 0);
        Check.rowOf(x, 0, 3, 34, 1L << 32);
        CHECK.due("P43 a setting far above", x.heard(0), 0);
        Check.rowOf(x, 0, 3, 34, 0, 61, 0);
        CHECK.due("P43 pitch 61", x.heard(0), -2);
        Check.rowOf(x, 0, 3, 34, 9, -1, 0);
        CHECK.due("P43 pitch below 0, behind a wrong setting", x.heard(0), -2);
        Check.rowOf(x, 0, 3, (1L << 32) + 34, 0);
        CHECK.due("P43 a pitch far above", x.heard(0), -2);
        Check.rowOf(x, 0, 3, 34, 0, 34);
        CHECK.due("P43 not two each", x.heard(0), -2);
        CHECK.due("P43 no such slot", x.heard(4), -2);
        CHECK.due("P43 slot below 0", x.heard(-1), -2);
        LipsAndSlides y = new LipsAndSlides();
        CHECK.due("P43 no desk, nothing there", y.heard(0), -2);
        y.row(0, 0, 0);
        CHECK.due("P43 no desk", y.heard(0), -2);
        LipsAndSlides z = Check.deskOf(DESK);
        z.row(0, 0, 0);
        CHECK.due("P43 no brasses", z.heard(0), 0);
    }

    private static LipsAndSlides crackable() {
        // a draw below 8, 24, 16 cracks
        return Check.deskOf(DESK + BUGLE + man(0, 0) + "part;tone 34 for 1;rest 1;tone 38 for 1;tone 46 for 1;"
                + "part;tone 23 for 1;part;rest 1;");
    }

    private static void cracks() {
        LipsAndSlides x = crackable();
        // seed, cracks, first: the draws are 0 68 88; 38 58 13; 8 17 39; 47 7 65; 17 66 91; 55 57 16; 4 33 21
        int[][] want = {{0, 1, 0}, {1, 1, 3}, {2, 1, 2}, {3, 1, 2}, {4, 0, -1}, {5, 0, -1}, {2000000000, 1, 0}};
        for (int[] w : want) {
            CHECK.due("P44 from " + w[0], x.cracks(w[0], 0, 0), w[1]);
            CHECK.due("P45 from " + w[0], x.cracked(w[0], 0, 0), w[2]);
        }
        CHECK.due("P44 no play", x.cracks(0, 0, 1), -1);
        CHECK.due("P45 no play", x.cracked(0, 0, 1), -1);
        CHECK.due("P44 rests", x.cracks(0, 0, 2), 0);
        CHECK.due("P45 rests", x.cracked(0, 0, 2), -1);
        int[][] none = {{-1, 0, 0}, {2000000001, 0, 0}, {0, 1, 0}, {0, -1, 0}, {0, 0, 3}, {0, 0, -1}};
        for (int[] n : none) {
            CHECK.due("P44 none such", x.cracks(n[0], n[1], n[2]), -2);
            CHECK.due("P45 none such", x.cracked(n[0], n[1], n[2]), -2);
            CHECK.due("P46 none such", x.clean(n[0], 1, n[1], n[2]), -2);
        }
    }

    private static void clean() {
        LipsAndSlides x = crackable();
        // from 0 on 4, 5, 8, 9 and 12 are clean
        CHECK.due("P46 13", x.clean(0, 13, 0, 0), 5);
        CHECK.due("P46 one", x.clean(0, 1, 0, 0), 0);
        CHECK.due("P46 one clean", x.clean(5, 1, 0, 0), 1);
        CHECK.due("P46 two clean", x.clean(4, 2, 0, 0), 2);
        CHECK.due("P46 the greatest seed and the next", x.clean(2000000000, 2, 0, 0), 1);
        CHECK.due("P46 rests", x.clean(0, 20, 0, 2), 20);
        CHECK.due("P46 no play", x.clean(0, 20, 0, 1), -1);
        CHECK.due("P46 n 0", x.clean(0, 0, 0, 0), -2);
        CHECK.due("P46 n 21", x.clean(0, 21, 0, 0), -2);
        CHECK.due("P46 n below 0", x.clean(0, -1, 0, 0), -2);
    }
}
