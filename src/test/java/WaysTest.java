/** Promises 9 to 16: settings, how far they are off, the ways of a pitch. */
public final class WaysTest {
    private static final Check CHECK = new Check("WaysTest");
    private static final int BUGLE = 0;
    private static final int HORN = 1;
    private static final int SLIDE = 2;
    private static final String BRASSES = "bugle base 10 long 500;horn base 10 long 500 valves 61 30 95 draws 20;"
            + "slide base 3 long 600 step 37;bugle base 22 long 500;";

    private static LipsAndSlides band(int cents, int highest) {
        return Check.deskOf("desk cents " + cents + " highest " + highest + ";" + BRASSES);
    }

    public static void main(String[] args) {
        flat();
        off();
        drawnOut();
        ways();
        way();
        range();
        common();
        move();
        CHECK.finish();
    }

    private static void flat() {
        LipsAndSlides x = band(20, 8);
        int[] horn = {0, 199, 100, 288, 300, 467, 384, 542};
        for (int s = 0; s < 8; s++) {
            CHECK.due("P9 horn " + s, x.flat(HORN, s), horn[s]);
        }
        int[] slide = {0, 103, 201, 293, 380, 462, 540};
        for (int s = 0; s < 7; s++) {
            CHECK.due("P9 slide " + s, x.flat(SLIDE, s), slide[s]);
        }
        CHECK.due("P9 bugle", x.flat(BUGLE, 0), 0);
        CHECK.due("P9 bugle 1", x.flat(BUGLE, 1), -2);
        CHECK.due("P9 horn 8", x.flat(HORN, 8), -2);
        CHECK.due("P9 slide 7", x.flat(SLIDE, 7), -2);
        CHECK.due("P9 below 0", x.flat(HORN, -1), -2);
        CHECK.due("P9 no such brass", x.flat(4, 0), -2);
        CHECK.due("P9 brass below 0", x.flat(-1, 0), -2);
        LipsAndSlides y = Check.deskOf("desk cents 5 highest 8;horn base 0 long 100 valves 400 400 400 draws 60;"
                + "slide base 0 long 100 step 100;");
        CHECK.due("P9 the flattest horn", y.flat(0, 7), 2967);
        CHECK.due("P9 the flattest slide", y.flat(1, 6), 2596);
    }

    private static void off() {
        LipsAndSlides x = band(20, 8);
        CHECK.due("P10 bugle 22 by 2", x.off(BUGLE, 22, 2, 0), 0);
        CHECK.due("P10 bugle 29 by 3", x.off(BUGLE, 29, 3, 0), 2);
        CHECK.due("P10 bugle 34 by 4", x.off(BUGLE, 34, 4, 0), 0);
        CHECK.due("P10 bugle 38 by 5", x.off(BUGLE, 38, 5, 0), -14);
        CHECK.due("P10 bugle 41 by 6", x.off(BUGLE, 41, 6, 0), 2);
        CHECK.due("P10 bugle 44 by 7", x.off(BUGLE, 44, 7, 0), -31);
        CHECK.due("P10 bugle 46 by 8", x.off(BUGLE, 46, 8, 0), 0);
        CHECK.due("P10 bugle 0 by 8", x.off(BUGLE, 0, 8, 0), 4600);
        CHECK.due("P10 bugle 60 by 2", x.off(BUGLE, 60, 2, 0), -3800);
        CHECK.due("P10 horn 33 by 4, 2", x.off(HORN, 33, 4, 2), 0);
        CHECK.due("P10 horn 31 by 4, 3", x.off(HORN, 31, 4, 3), 12);
        CHECK.due("P10 horn 31 by 4, 4", x.off(HORN, 31, 4, 4), 0);
        CHECK.due("P10 horn 33 by 5, 5, drawn", x.off(HORN, 33, 5, 5), 1);
        CHECK.due("P10 horn 34 by 5, 6, drawn", x.off(HORN, 34, 5, 6), -1);
        CHECK.due("P10 horn 30 by 4, 5", x.off(HORN, 30, 4, 5), -67);
        CHECK.due("P10 horn 0 by 8, 4, drawn out all", x.off(HORN, 0, 8, 4), 4243);
        CHECK.due("P10 horn 60 by 2, 4", x.off(HORN, 60, 2, 4), -4100);
        CHECK.due("P10 slide 31 by 6, 3", x.off(SLIDE, 31, 6, 3), 9);
        CHECK.due("P10 slide 27 by 5, 4", x.off(SLIDE, 27, 5, 4), 6);
        CHECK.due("P10 partial 9", x.off(BUGLE, 22, 9, 0), -100000);
        CHECK.due("P10 partial 1", x.off(BUGLE, 22, 1, 0), -100000);
        CHECK.due("P10 setting 1", x.off(BUGLE, 22, 2, 1), -100000);
        CHECK.due("P10 setting 8", x.off(HORN, 22, 2, 8), -100000);
        CHECK.due("P10 setting 7 of a slide", x.off(SLIDE, 22, 2, 7), -100000);
        CHECK.due("P10 setting below 0", x.off(SLIDE, 22, 2, -1), -100000);
        CHECK.due("P10 pitch 61", x.off(BUGLE, 61, 2, 0), -100000);
        CHECK.due("P10 pitch below 0", x.off(BUGLE, -1, 2, 0), -100000);
        CHECK.due("P10 no such brass", x.off(4, 22, 2, 0), -100000);
        CHECK.due("P10 brass below 0", x.off(-1, 22, 2, 0), -100000);
        LipsAndSlides y = band(20, 12);
        int[] cents = {1200, 1902, 2400, 2786, 3102, 3369, 3600, 3804, 3986, 4151, 4302};
        for (int partial = 2; partial <= 12; partial++) {
            CHECK.due("P10 partial " + partial, y.off(BUGLE, 10, partial, 0), cents[partial - 2]);
        }
        CHECK.due("P10 partial 13", y.off(BUGLE, 10, 13, 0), -100000);
        CHECK.due("P10 far partial", y.off(BUGLE, 10, Integer.MAX_VALUE, 0), -100000);
        CHECK.due("P10 far partial below", y.off(BUGLE, 10, Integer.MIN_VALUE, 0), -100000);
    }

    private static void drawnOut() {
        LipsAndSlides x = band(20, 8);
        CHECK.due("P11 +1 and -1 are as near: the least", x.drawnOut(HORN, 33, 5, 5), 7);
        CHECK.due("P11 one", x.drawnOut(HORN, 34, 5, 6), 1);
        CHECK.due("P11 none needed", x.drawnOut(HORN, 31, 4, 4), 0);
        CHECK.due("P11 too flat already", x.drawnOut(HORN, 30, 4, 5), 0);
        CHECK.due("P11 to 0", x.drawnOut(HORN, 30, 4, 6), 6);
        CHECK.due("P11 all", x.drawnOut(HORN, 0, 8, 4), 20);
        CHECK.due("P11 without the third valve", x.drawnOut(HORN, 0, 8, 3), 0);
        CHECK.due("P11 bugle", x.drawnOut(BUGLE, 0, 8, 0), 0);
        CHECK.due("P11 slide in place 4", x.drawnOut(SLIDE, 0, 8, 4), 0);
        CHECK.due("P11 partial 9", x.drawnOut(HORN, 33, 9, 4), -2);
        CHECK.due("P11 setting 8", x.drawnOut(HORN, 33, 5, 8), -2);
        CHECK.due("P11 pitch 61", x.drawnOut(HORN, 61, 5, 4), -2);
        CHECK.due("P11 no such brass", x.drawnOut(4, 33, 5, 4), -2);
        // far out several draws are equally flat, as the flat is cut: 3462 * 1258 / 3256 is 1337,
        // of 1259 it is 1338, of 1260 it is 1338 too
        LipsAndSlides y = Check.deskOf("desk cents 5 highest 12;horn base 40 long 999 valves 400 400 400 draws 60;");
        CHECK.due("P11 flat of 7", y.flat(0, 7), 1299);
        CHECK.due("P11 the least of equals", y.drawnOut(0, 0, 12, 7), 59);
        CHECK.due("P11 off by it", y.off(0, 0, 12, 7), 4000 + 4302 - 1338);
    }

    private static void ways() {
        LipsAndSlides x = band(20, 8);
        CHECK.due("P12 bugle 22", x.ways(BUGLE, 22), 1);
        CHECK.due("P12 bugle 23", x.ways(BUGLE, 23), 0);
        CHECK.due("P12 bugle 44", x.ways(BUGLE, 44), 0);
        CHECK.due("P12 horn 34", x.ways(HORN, 34), 2);
        CHECK.due("P12 horn 33", x.ways(HORN, 33), 2);
        CHECK.due("P12 horn 31", x.ways(HORN, 31), 2);
        CHECK.due("P12 horn 30", x.ways(HORN, 30), 1);
        CHECK.due("P12 slide 31", x.ways(SLIDE, 31), 2);
        CHECK.due("P12 cents are reached", band(14, 8).ways(BUGLE, 38), 1);
        CHECK.due("P12 cents are not reached", band(13, 8).ways(BUGLE, 38), 0);
        CHECK.due("P12 31 cents", band(31, 8).ways(BUGLE, 44), 1);
        CHECK.due("P12 30 cents", band(30, 8).ways(BUGLE, 44), 0);
        CHECK.due("P12 above the highest", band(20, 7).ways(BUGLE, 46), 0);
        CHECK.due("P12 pitch 60", x.ways(BUGLE, 60), 0);
        CHECK.due("P12 pitch 0", x.ways(BUGLE, 0), 0);
        CHECK.due("P12 pitch 61", x.ways(BUGLE, 61), -2);
        CHECK.due("P12 pitch below 0", x.ways(BUGLE, -1), -2);
        CHECK.due("P12 no such brass", x.ways(4, 22), -2);
        CHECK.due("P12 brass below 0", x.ways(-1, 22), -2);
    }

    private static void way() {
        LipsAndSlides x = band(20, 8);
        int[][] want = {{33, 4, 2, 5, 5}, {34, 4, 0, 5, 6}, {31, 4, 3, 4, 4}};
        for (int[] row : want) {
            CHECK.due("P13 first partial of " + row[0], x.way(HORN, row[0], 0, 0), row[1]);
            CHECK.due("P13 first setting of " + row[0], x.way(HORN, row[0], 0, 1), row[2]);
            CHECK.due("P13 second partial of " + row[0], x.way(HORN, row[0], 1, 0), row[3]);
            CHECK.due("P13 second setting of " + row[0], x.way(HORN, row[0], 1, 1), row[4]);
            CHECK.due("P13 no third of " + row[0], x.way(HORN, row[0], 2, 0), -1);
        }
        CHECK.due("P13 below 0", x.way(HORN, 33, -1, 0), -1);
        CHECK.due("P13 far", x.way(HORN, 33, Integer.MAX_VALUE, 0), -1);
        CHECK.due("P13 no way at all", x.way(BUGLE, 23, 0, 0), -1);
        CHECK.due("P13 no such what", x.way(HORN, 33, 0, 2), -2);
        CHECK.due("P13 no such what, nor way", x.way(HORN, 33, 9, 2), -2);
        CHECK.due("P13 what below 0", x.way(HORN, 33, 0, -1), -2);
        CHECK.due("P13 pitch 61", x.way(HORN, 61, 0, 0), -2);
        CHECK.due("P13 pitch below 0", x.way(HORN, -1, 0, 0), -2);
        CHECK.due("P13 no such brass", x.way(4, 33, 0, 0), -2);
    }

    private static void range() {
        LipsAndSlides x = band(20, 8);
        CHECK.due("P14 least", x.range(BUGLE, 0), 22);
        CHECK.due("P14 greatest", x.range(BUGLE, 1), 46);
        // 22, 29, 34, 38, 41, 46 have one
        CHECK.due("P14 none between", x.range(BUGLE, 2), 19);
        CHECK.due("P14 44 too", band(31, 8).range(BUGLE, 2), 18);
        LipsAndSlides y = band(20, 2);
        CHECK.due("P14 one alone, least", y.range(BUGLE, 0), 22);
        CHECK.due("P14 one alone, greatest", y.range(BUGLE, 1), 22);
        CHECK.due("P14 one alone, between", y.range(BUGLE, 2), 0);
        CHECK.due("P14 no such what", x.range(BUGLE, 3), -2);
        CHECK.due("P14 what below 0", x.range(BUGLE, -1), -2);
        CHECK.due("P14 no such brass", x.range(4, 0), -2);
        CHECK.due("P14 brass below 0", x.range(-1, 0), -2);
    }

    private static void common() {
        LipsAndSlides x = band(20, 8);
        // 34, 41, 46: the upper one has 34, 41, 46, 50, 53, 58
        CHECK.due("P15 an octave apart", x.common(BUGLE, 3), 3);
        CHECK.due("P15 the other way round", x.common(3, BUGLE), 3);
        CHECK.due("P15 all of a bugle's are a horn's", x.common(BUGLE, HORN), 6);
        CHECK.due("P15 one twice", x.common(HORN, HORN), -2);
        CHECK.due("P15 no such brass", x.common(HORN, 4), -2);
        CHECK.due("P15 no such first", x.common(-1, HORN), -2);
        CHECK.due("P15 none, twice", x.common(9, 9), -2);
    }

    private static void move() {
        LipsAndSlides x = band(20, 8);
        CHECK.due("P16 horn 3, 5", x.move(HORN, 3, 5), 2);
        CHECK.due("P16 horn 0, 7", x.move(HORN, 0, 7), 3);
        CHECK.due("P16 horn 7, 6", x.move(HORN, 7, 6), 1);
        CHECK.due("P16 horn 4, 4", x.move(HORN, 4, 4), 0);
        CHECK.due("P16 slide 1, 6", x.move(SLIDE, 1, 6), 5);
        CHECK.due("P16 slide 6, 0", x.move(SLIDE, 6, 0), 6);
        CHECK.due("P16 bugle", x.move(BUGLE, 0, 0), 0);
        CHECK.due("P16 bugle 0, 1", x.move(BUGLE, 0, 1), -2);
        CHECK.due("P16 slide 0, 7", x.move(SLIDE, 0, 7), -2);
        CHECK.due("P16 slide 7, 0", x.move(SLIDE, 7, 0), -2);
        CHECK.due("P16 horn 8, 0", x.move(HORN, 8, 0), -2);
        CHECK.due("P16 horn 0, -1", x.move(HORN, 0, -1), -2);
        CHECK.due("P16 no such brass", x.move(4, 0, 0), -2);
    }
}
