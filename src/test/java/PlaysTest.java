/** Promises 17 to 28: the plays of a part, the best of them, what would do. */
public final class PlaysTest {
    private static final Check CHECK = new Check("PlaysTest");
    private static final String DESK = "desk cents 20 highest 8;";
    private static final String BUGLE = "bugle base 10 long 500;";
    private static final String HORN = "horn base 10 long 500 valves 61 30 95 draws 20;";
    private static final String SLIDE = "slide base 3 long 600 step 37;";

    /** One brass, a player of it who is so quick, and one part. */
    private static LipsAndSlides one(String brass, int quick, String part) {
        return Check.deskOf(DESK + brass + "player 0 quick " + quick + " air 30 lips 999;part;" + part);
    }

    public static void main(String[] args) {
        twoTones();
        gaps();
        leastSour();
        leastRow();
        slursOfLips();
        slursOfSlides();
        stuck();
        quick();
        cents();
        many();
        moved();
        movedRows();
        shift();
        restsAlone();
        noneSuch();
        CHECK.finish();
    }

    private static void twoTones() {
        // 34: (4, 0), (5, 6) off 1; 33: (4, 2), (5, 5) off 1
        LipsAndSlides x = one(HORN, 1, "tone 34 for 1;tone 33 for 1;");
        CHECK.due("P17 can", x.plays(0, 0), 1);
        CHECK.due("P18 cost", x.cost(0, 0), 1);
        CHECK.due("P19 sour", x.sour(0, 0), 0);
        CHECK.due("P25 many", x.many(0, 0), 2);
        int[][] want = {{4, 0, 0}, {4, 2, 0}};
        for (int i = 0; i < 2; i++) {
            for (int what = 0; what < 3; what++) {
                CHECK.due("P20 chosen " + i + " " + what, x.chosen(0, 0, i, what), want[i][what]);
            }
        }
        CHECK.due("P22 not stuck", x.stuck(0, 0), -1);
        CHECK.due("P21 moves", x.slurs(0, 0, 2), 1);
        CHECK.due("P21 no smear, as nothing is slurred", x.slurs(0, 0, 0), 0);
        LipsAndSlides y = one(HORN, 0, "tone 34 for 1;tone 33 for 1;");
        CHECK.due("P17 can't", y.plays(0, 0), 0);
        CHECK.due("P18 no cost", y.cost(0, 0), -1);
        CHECK.due("P19 no sour", y.sour(0, 0), -1);
        CHECK.due("P20 none chosen", y.chosen(0, 0, 0, 0), -1);
        CHECK.due("P21 no slurs", y.slurs(0, 0, 2), -1);
        CHECK.due("P22 stuck", y.stuck(0, 0), 1);
        CHECK.due("P25 none", y.many(0, 0), 0);
    }

    private static void gaps() {
        // (4, 0) to (5, 5) and (5, 6) to (5, 5) need two beats from beginning to beginning
        CHECK.due("P25 one beat", one(HORN, 1, "tone 34 for 1;tone 33 for 9;").many(0, 0), 2);
        CHECK.due("P25 two beats", one(HORN, 1, "tone 34 for 2;tone 33 for 1;").many(0, 0), 4);
        CHECK.due("P25 a rest's beat counts", one(HORN, 1, "tone 34 for 1;rest 1;tone 33 for 1;").many(0, 0), 4);
        CHECK.due("P25 a rest ahead does not", one(HORN, 1, "rest 9;tone 34 for 1;tone 33 for 1;").many(0, 0), 2);
        CHECK.due("P25 quick 2", one(HORN, 2, "tone 34 for 1;tone 33 for 1;").many(0, 0), 4);
        CHECK.due("P17 quick 0, no move", one(HORN, 0, "tone 34 for 1;tone 34 for 1;").plays(0, 0), 1);
    }

    private static void leastSour() {
        // 31: (4, 3) off 12, (4, 4) off 0
        LipsAndSlides x = one(HORN, 9, "rest 1;tone 31 for 1;");
        CHECK.due("P20 the nearest way", x.chosen(0, 0, 1, 2), 1);
        CHECK.due("P20 its setting", x.chosen(0, 0, 1, 1), 4);
        CHECK.due("P19 its sour", x.sour(0, 0), 0);
        CHECK.due("P20 a rest", x.chosen(0, 0, 0, 0), -1);
        CHECK.due("P20 no such tone", x.chosen(0, 0, 2, 0), -1);
        CHECK.due("P20 tone below 0", x.chosen(0, 0, -1, 2), -1);
        CHECK.due("P20 no such what", x.chosen(0, 0, 1, 3), -2);
        CHECK.due("P20 what below 0", x.chosen(0, 0, 1, -1), -2);
        // 32: (4, 1) off 1, (5, 7) off 0; cost comes first: to (4, 3) it is one valve, to (4, 4) two
        LipsAndSlides y = one(HORN, 9, "tone 32 for 1;tone 31 for 1;");
        CHECK.due("P18 cost ahead of sour", y.cost(0, 0), 1);
        CHECK.due("P20 sour ahead of the row", y.chosen(0, 0, 0, 2), 1);
        CHECK.due("P20 its setting", y.chosen(0, 0, 0, 1), 7);
        CHECK.due("P20 its partial", y.chosen(0, 0, 0, 0), 5);
        CHECK.due("P20 the sour way", y.chosen(0, 0, 1, 1), 3);
        CHECK.due("P19 both together", y.sour(0, 0), 12);
    }

    private static void leastRow() {
        // settings 1 and 2 are alike, so the rows (0, 0) and (1, 1) are as good; 5 and 6 by partial 6 are off more
        LipsAndSlides x = one("horn base 10 long 500 valves 61 61 300 draws 0;", 9, "tone 32 for 1;tone 32 for 1;");
        CHECK.due("P25 four ways each", x.many(0, 0), 16);
        CHECK.due("P18 no cost", x.cost(0, 0), 0);
        CHECK.due("P20 the least row", x.chosen(0, 0, 0, 2), 0);
        CHECK.due("P20 the least row again", x.chosen(0, 0, 1, 2), 0);
        CHECK.due("P20 its setting", x.chosen(0, 0, 1, 1), 1);
    }

    private static void slursOfLips() {
        LipsAndSlides x = one(BUGLE, 0, "tone 22 for 1 slurred;tone 29 for 1 slurred;tone 29 for 1;tone 46 for 1;");
        CHECK.due("P17 partials one apart, then none", x.plays(0, 0), 1);
        CHECK.due("P21 by lips", x.slurs(0, 0, 1), 1);
        CHECK.due("P21 no smears", x.slurs(0, 0, 0), 0);
        CHECK.due("P21 no moves", x.slurs(0, 0, 2), 0);
        CHECK.due("P21 no such what", x.slurs(0, 0, 3), -2);
        CHECK.due("P21 what below 0", x.slurs(0, 0, -1), -2);
        CHECK.due("P22 two apart", one(BUGLE, 0, "tone 22 for 1 slurred;tone 34 for 1;").stuck(0, 0), 1);
        CHECK.due("P22 not slurred", one(BUGLE, 0, "tone 22 for 1;tone 34 for 1 slurred;").stuck(0, 0), -1);
        LipsAndSlides y = one(BUGLE, 0, "tone 22 for 1 slurred;rest 1;tone 34 for 1;");
        CHECK.due("P17 a rest between", y.plays(0, 0), 1);
        CHECK.due("P21 that is no slur", y.slurs(0, 0, 1), 0);
        LipsAndSlides h = one(HORN, 9, "tone 34 for 1 slurred;tone 33 for 1 slurred;tone 34 for 1;");
        CHECK.due("P21 a valve under a slur", h.slurs(0, 0, 0), 2);
        CHECK.due("P21 not by lips alone", h.slurs(0, 0, 1), 0);
        CHECK.due("P21 moves", h.slurs(0, 0, 2), 2);
    }

    private static void slursOfSlides() {
        // 27: (4, 0), (5, 4); 29: (5, 2); 30: (5, 1)
        LipsAndSlides x = one(SLIDE, 9, "tone 27 for 1 slurred;tone 29 for 1;");
        CHECK.due("P18 the way by which one partial stays", x.cost(0, 0), 2);
        CHECK.due("P20 it is the second", x.chosen(0, 0, 0, 2), 1);
        CHECK.due("P21 a smear", x.slurs(0, 0, 0), 1);
        CHECK.due("P25 the other may not be", x.many(0, 0), 1);
        LipsAndSlides y = one(SLIDE, 9, "tone 27 for 1 slurred;tone 30 for 1;");
        CHECK.due("P20 unlike partials, one place", y.chosen(0, 0, 0, 2), 0);
        CHECK.due("P18 its cost", y.cost(0, 0), 1);
        CHECK.due("P25 both may be", y.many(0, 0), 2);
        CHECK.due("P21 no smear", y.slurs(0, 0, 0), 0);
        CHECK.due("P21 nor by lips", y.slurs(0, 0, 1), 0);
        CHECK.due("P21 one move", y.slurs(0, 0, 2), 1);
        CHECK.due("P25 not slurred", one(SLIDE, 9, "tone 27 for 1;tone 29 for 1;").many(0, 0), 2);
        // a horn may move more valves between unlike partials: (4, 0) to (5, 5), (5, 6) to (4, 2) ..
        CHECK.due("P25 a horn", one(HORN, 9, "tone 34 for 1 slurred;tone 33 for 1;").many(0, 0), 4);
    }

    private static void stuck() {
        LipsAndSlides x = one(BUGLE, 0, "rest 1;tone 22 for 1;tone 23 for 1;tone 24 for 1;");
        CHECK.due("P22 rests are numbered", x.stuck(0, 0), 2);
        CHECK.due("P22 the first", one(BUGLE, 0, "tone 23 for 1;").stuck(0, 0), 0);
        // from 27 by (4, 0) and by (5, 4) one comes to 29 by (5, 2), but 26 lies behind a slur
        LipsAndSlides y = one(SLIDE, 1, "tone 27 for 1;tone 29 for 1;tone 27 for 1;");
        CHECK.due("P22 hands", y.stuck(0, 0), 1);
        LipsAndSlides z = one(SLIDE, 2, "tone 27 for 1;tone 29 for 1;tone 25 for 1;");
        CHECK.due("P22 can", z.stuck(0, 0), -1);
    }

    private static void quick() {
        CHECK.due("P23 one", one(HORN, 0, "tone 34 for 1;tone 33 for 1;").quick(0, 0), 1);
        CHECK.due("P23 fewer than he has", one(HORN, 9, "tone 34 for 1;tone 33 for 1;").quick(0, 0), 1);
        CHECK.due("P23 none needed", one(HORN, 9, "tone 34 for 1;tone 34 for 1;").quick(0, 0), 0);
        CHECK.due("P23 by beats, upwards", one(SLIDE, 0, "tone 27 for 2;tone 24 for 1;").quick(0, 0), 1);
        CHECK.due("P23 a place each", one(SLIDE, 0, "tone 27 for 1;tone 29 for 1;").quick(0, 0), 2);
        CHECK.due("P23 with none", one(BUGLE, 0, "tone 22 for 1 slurred;tone 34 for 1;").quick(0, 0), -1);
        CHECK.due("P23 no way", one(BUGLE, 0, "tone 23 for 1;").quick(0, 0), -1);
        LipsAndSlides x = one(HORN, 3, "tone 34 for 1;tone 33 for 1;");
        x.quick(0, 0);
        CHECK.due("P23 all stays", x.player(0, 1), 3);
        CHECK.due("P23 many stays", x.many(0, 0), 4);
    }

    private static void cents() {
        CHECK.due("P24 1 at least", one(BUGLE, 0, "tone 22 for 1;").cents(0, 0), 1);
        CHECK.due("P24 2", one(BUGLE, 0, "tone 22 for 1;tone 29 for 1;").cents(0, 0), 2);
        CHECK.due("P24 14", one(BUGLE, 0, "tone 38 for 1;tone 29 for 1;").cents(0, 0), 14);
        CHECK.due("P24 more than there are", one(BUGLE, 0, "tone 44 for 1;").cents(0, 0), 31);
        CHECK.due("P24 more than 60", one(BUGLE, 0, "tone 43 for 1;").cents(0, 0), -1);
        CHECK.due("P24 a bugle of 60", one("bugle base 40 long 500;", 0, "tone 53 for 1;").cents(0, 0), -1);
        CHECK.due("P24 slurs bind still", one(BUGLE, 0, "tone 22 for 1 slurred;tone 34 for 1;").cents(0, 0), -1);
        LipsAndSlides x = one(BUGLE, 0, "tone 44 for 1;");
        x.cents(0, 0);
        CHECK.due("P24 all stays", x.count(0), 20);
        CHECK.due("P24 can't still", x.plays(0, 0), 0);
    }

    private static void many() {
        String loose = "horn base 10 long 500 valves 0 0 0 draws 0;";
        CHECK.due("P25 8 ^ 9", one(loose, 9, "tone 34 for 1;".repeat(9)).many(0, 0), 134217728);
        CHECK.due("P25 8 ^ 10", one(loose, 9, "tone 34 for 1;".repeat(10)).many(0, 0), -3);
        CHECK.due("P25 8 ^ 16", one(loose, 9, "tone 34 for 1;".repeat(16)).many(0, 0), -3);
        CHECK.due("P25 8 rows that stay", one(loose, 0, "tone 34 for 1;".repeat(16)).many(0, 0), 8);
        justSoMany();
        LipsAndSlides x = one(loose, 9, "tone 34 for 1;".repeat(16));
        CHECK.due("P20 of so many the least", x.chosen(0, 0, 15, 2), 0);
        CHECK.due("P25 none", one(loose, 9, "tone 34 for 1;".repeat(15) + "tone 35 for 1;").many(0, 0), 0);
    }

    private static void justSoMany() {
        // places are 0, 10, 20, 30, 41, 51, 61 flat: 34 has 5 ways, 38 (off -14) 4, 44 (off -31) 2
        String begin = "desk cents 45 highest 8;slide base 10 long 999 step 6;player 0 quick 9 air 30 lips 999;part;"
                + "tone 34 for 1;".repeat(9) + "tone 38 for 1;".repeat(2) + "tone 44 for 1;".repeat(4);
        CHECK.due("P25 5 ^ 9 * 2 ^ 9", Check.deskOf(begin + "tone 44 for 1;").many(0, 0), 1000000000);
        CHECK.due("P25 twice that", Check.deskOf(begin + "tone 38 for 1;").many(0, 0), -3);
        CHECK.due("P25 half of that", Check.deskOf(begin).many(0, 0), 500000000);
    }

    private static void moved() {
        LipsAndSlides x = one(BUGLE, 0, "tone 34 for 1;rest 1;tone 10 for 1;tone 58 for 1;");
        CHECK.due("P26 two", x.moved(0, 0), 2);
        int[] want = {0, -1, 12, -12};
        for (int i = 0; i < 4; i++) {
            CHECK.due("P27 put " + i, x.put(0, 0, i), want[i]);
        }
        CHECK.due("P27 no such tone", x.put(0, 0, 4), -1);
        CHECK.due("P27 tone below 0", x.put(0, 0, -1), -1);
        CHECK.due("P26 none", one(BUGLE, 0, "tone 34 for 1;tone 22 for 1;").moved(0, 0), 0);
        LipsAndSlides y = one(BUGLE, 0, "tone 34 for 1;tone 23 for 1;");
        CHECK.due("P26 it can't be", y.moved(0, 0), -1);
        CHECK.due("P27 it can't be", y.put(0, 0, 0), -1);
        // 52 an octave up is partial 5 of this one, 64, which is no pitch
        LipsAndSlides z = one("bugle base 36 long 500;", 0, "tone 52 for 1;");
        CHECK.due("P26 not above 60", z.moved(0, 0), -1);
        CHECK.due("P26 the pitch stays", x.tone(0, 2, 0), 10);
    }

    private static void movedRows() {
        // partials 4 and 8: (0, -12) and (12, 0) do
        LipsAndSlides x = one(BUGLE, 0, "tone 34 for 1 slurred;tone 46 for 1;");
        CHECK.due("P26 one", x.moved(0, 0), 1);
        CHECK.due("P27 0 ahead of 12", x.put(0, 0, 0), 0);
        CHECK.due("P27 the second goes down", x.put(0, 0, 1), -12);
        // partials 4 and 2: (-12, 0) and (0, 12) do
        LipsAndSlides y = one(BUGLE, 0, "tone 34 for 1 slurred;tone 22 for 1;");
        CHECK.due("P26 one again", y.moved(0, 0), 1);
        CHECK.due("P27 -12 ahead of 0", y.put(0, 0, 0), -12);
        CHECK.due("P27 the second stays", y.put(0, 0, 1), 0);
        // fewer ahead of the first row: 22 could go down nowhere, 34 needs no moving
        LipsAndSlides z = one(BUGLE, 0, "tone 34 for 1;tone 46 for 1;tone 34 for 1 slurred;tone 46 for 1;");
        int[] want = {0, 0, 0, -12};
        for (int i = 0; i < 4; i++) {
            CHECK.due("P27 fewest, put " + i, z.put(0, 0, i), want[i]);
        }
    }

    private static void shift() {
        CHECK.due("P28 none needed", one(BUGLE, 0, "tone 34 for 1;").shift(0, 0), 0);
        CHECK.due("P28 nearest, down", one(BUGLE, 0, "tone 30 for 1;").shift(0, 0), -1);
        CHECK.due("P28 of two up", one(BUGLE, 0, "tone 36 for 1;").shift(0, 0), 2);
        CHECK.due("P28 all together", one(BUGLE, 0, "tone 30 for 1;tone 35 for 1;").shift(0, 0), -1);
        CHECK.due("P28 by 12", one(BUGLE, 0, "tone 10 for 1;").shift(0, 0), 12);
        CHECK.due("P28 by -12", one(BUGLE, 0, "tone 58 for 1;").shift(0, 0), -12);
        CHECK.due("P28 13 is too far", one(BUGLE, 0, "tone 9 for 1;").shift(0, 0), -100);
        CHECK.due("P28 by none", one(BUGLE, 0, "tone 22 for 1;tone 23 for 1;").shift(0, 0), -100);
        // 62 would be nearer than 57, but is no pitch
        CHECK.due("P28 not above 60", one("bugle base 38 long 500;", 0, "tone 60 for 1;").shift(0, 0), -3);
        CHECK.due("P28 none below 0", one("bugle base 0 long 500;", 0, "tone 0 for 1;").shift(0, 0), 12);
        LipsAndSlides x = one(BUGLE, 0, "tone 30 for 1;");
        x.shift(0, 0);
        CHECK.due("P28 the pitch stays", x.tone(0, 0, 0), 30);
    }

    private static void restsAlone() {
        for (String part : new String[] {"rest 3;rest 1;", ""}) {
            LipsAndSlides x = one(HORN, 0, part);
            CHECK.due("P17 rests", x.plays(0, 0), 1);
            CHECK.due("P18 rests", x.cost(0, 0), 0);
            CHECK.due("P19 rests", x.sour(0, 0), 0);
            CHECK.due("P20 rests", x.chosen(0, 0, 0, 0), -1);
            CHECK.due("P21 rests", x.slurs(0, 0, 2), 0);
            CHECK.due("P22 rests", x.stuck(0, 0), -1);
            CHECK.due("P23 rests", x.quick(0, 0), 0);
            CHECK.due("P24 rests", x.cents(0, 0), 1);
            CHECK.due("P25 rests", x.many(0, 0), 1);
            CHECK.due("P26 rests", x.moved(0, 0), 0);
            CHECK.due("P27 rests", x.put(0, 0, 0), -1);
            CHECK.due("P28 rests", x.shift(0, 0), 0);
        }
    }

    private static void noneSuch() {
        LipsAndSlides x = one(HORN, 1, "tone 34 for 1;");
        int[][] pairs = {{1, 0}, {0, 1}, {-1, 0}, {0, -1}, {9, 3}, {Integer.MIN_VALUE, Integer.MAX_VALUE}};
        for (int[] p : pairs) {
            CHECK.due("P17 none such", x.plays(p[0], p[1]), -2);
            CHECK.due("P18 none such", x.cost(p[0], p[1]), -2);
            CHECK.due("P19 none such", x.sour(p[0], p[1]), -2);
            CHECK.due("P20 none such", x.chosen(p[0], p[1], 0, 0), -2);
            CHECK.due("P21 none such", x.slurs(p[0], p[1], 0), -2);
            CHECK.due("P22 none such", x.stuck(p[0], p[1]), -2);
            CHECK.due("P23 none such", x.quick(p[0], p[1]), -2);
            CHECK.due("P24 none such", x.cents(p[0], p[1]), -2);
            CHECK.due("P25 none such", x.many(p[0], p[1]), -2);
            CHECK.due("P26 none such", x.moved(p[0], p[1]), -2);
            CHECK.due("P27 none such", x.put(p[0], p[1], 0), -2);
            CHECK.due("P28 none such", x.shift(p[0], p[1]), -2);
        }
    }
}
