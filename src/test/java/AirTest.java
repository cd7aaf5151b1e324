/** Promises 29 to 37: breaths, loads of lips, doubles. */
public final class AirTest {
    private static final Check CHECK = new Check("AirTest");
    private static final String DESK = "desk cents 20 highest 8;bugle base 10 long 500;";
    private static final int MARKED = 1;

    private static String man(int air, int lips) {
        return "player 0 quick 0 air " + air + " lips " + lips + ";";
    }

    /** Tones of pitch 34; a negative number is a rest, a tenth place of 1 is a mark. */
    private static String beats(int... told) {
        StringBuilder part = new StringBuilder("part;");
        for (int t : told) {
            if (t < 0) {
                part.append("rest ").append(-t).append(';');
            } else {
                part.append("tone 34 for ").append(t % 10).append(t / 10 == MARKED ? " breath;" : ";");
            }
        }
        return part.toString();
    }

    private static LipsAndSlides alone(int air, int... told) {
        return Check.deskOf(DESK + man(air, 999) + beats(told));
    }

    public static void main(String[] args) {
        breaths();
        choked();
        loads();
        doubles();
        threeDoubles();
        line();
        noneSuch();
        CHECK.finish();
    }

    private static void breathsAre(int air, int number, int bits, int... told) {
        LipsAndSlides x = alone(air, told);
        CHECK.due("P29 breaths of " + java.util.Arrays.toString(told), x.breaths(0, 0), number);
        CHECK.due("P30 marks of " + java.util.Arrays.toString(told), x.marks(0, 0), bits);
    }

    private static void breaths() {
        breathsAre(8, 0, 0, 4, 4);
        breathsAre(8, -1, -1, 4, 5);
        breathsAre(8, 1, 1, 14, 5);
        breathsAre(8, 1, 2, 13, 13, 13, 3);
        // behind tone 0, 1 or 2: the least
        breathsAre(6, 1, 1, 12, 12, 12, 2);
        // behind 0 and 2, 1 and 2 .. : the last as low as may be, then the one ahead of it
        breathsAre(4, 2, 5, 12, 12, 12, 12, 12);
        breathsAre(9, 0, 0, 19);
        breathsAre(8, -1, -1, 19);
        breathsAre(8, 0, 0, 18, -1, 8);
        breathsAre(8, -1, -1, 8, 1, -1, 8);
        breathsAre(8, 2, 9, 18, 1, -1, 14, 5);
        // a rest of any length is a breath, one behind a mark needs none
        breathsAre(3, 0, 0, 13, -9, 13, -1, 13);
        breathsAre(30, 0, 0);
        breathsAre(1, 0, 0, -5);
        breathsAre(1, 15, 32767, 11, 11, 11, 11, 11, 11, 11, 11, 11, 11, 11, 11, 11, 11, 11, 11);
        breathsAre(1, -1, -1, 11, 11, 1, 1);
    }

    private static void choked() {
        CHECK.due("P31 never", alone(8, 4, 4).choked(0, 0), -1);
        CHECK.due("P31 just", alone(8, 4, 5).choked(0, 0), 1);
        CHECK.due("P31 the first", alone(8, 9, 9).choked(0, 0), 0);
        CHECK.due("P31 marks help", alone(8, 14, 15, 4).choked(0, 0), -1);
        CHECK.due("P31 he breathes at each", alone(8, 17, 11, 7, 1, 1).choked(0, 0), 4);
        CHECK.due("P31 rests help and are numbered", alone(8, 8, -1, 8, -1, 8, 1).choked(0, 0), 5);
        CHECK.due("P31 rests alone", alone(1, -9).choked(0, 0), -1);
    }

    private static void loads() {
        // partials 8, 2, a rest, 3, 4, 5
        String part = "part;tone 46 for 3;tone 22 for 2;rest 4;tone 29 for 1;rest 9;tone 34 for 2;tone 38 for 2;";
        LipsAndSlides x = Check.deskOf(DESK + man(30, 16) + part);
        int[] want = {15, 17, 9, 10, 0, 2, 6};
        for (int i = 0; i < want.length; i++) {
            CHECK.due("P32 load " + i, x.load(0, 0, i), want[i]);
        }
        CHECK.due("P32 no such tone", x.load(0, 0, 7), -2);
        CHECK.due("P32 tone below 0", x.load(0, 0, -1), -2);
        CHECK.due("P33 tired", x.tired(0, 0), 1);
        CHECK.due("P34 spared", x.spared(0, 0), 4);
        LipsAndSlides y = Check.deskOf(DESK + man(30, 17) + man(30, 14) + man(30, 0) + part + "part;tone 23 for 1;");
        CHECK.due("P33 just not", y.tired(0, 0), -1);
        CHECK.due("P34 none", y.spared(0, 0), 0);
        CHECK.due("P33 at once", y.tired(1, 0), 0);
        CHECK.due("P34 all", y.spared(1, 0), 5);
        CHECK.due("P33 no lips", y.tired(2, 0), 0);
        CHECK.due("P32 no play", y.load(0, 1, 0), -1);
        CHECK.due("P32 no play, no such tone", y.load(0, 1, 1), -2);
        CHECK.due("P33 no play", y.tired(0, 1), -1);
        CHECK.due("P34 no play", y.spared(0, 1), -1);
        LipsAndSlides z = Check.deskOf(DESK + man(1, 0) + "part;rest 3;");
        CHECK.due("P32 a rest at first", z.load(0, 0, 0), 0);
        CHECK.due("P33 rests", z.tired(0, 0), -1);
        CHECK.due("P34 rests", z.spared(0, 0), 0);
    }

    private static void ordered(LipsAndSlides x, int set, int number, int... leavers) {
        CHECK.due("P35 doubles(" + set + ")", x.doubles(set, 0), number);
        for (int i = 0; i < leavers.length; i++) {
            CHECK.due("P36 leaves(" + set + ", " + i + ")", x.leaves(set, 0, i), leavers[i]);
        }
    }

    private static void doubles() {
        LipsAndSlides x = Check.deskOf(DESK + man(4, 0) + man(4, 0) + man(8, 0) + beats(2, 2, 2, 2));
        ordered(x, 1, -1, -1, -1, -1, -1);
        ordered(x, 4, 0, -1, -1, -1, -1);
        ordered(x, 3, 2, -1, 0, 1, -1);
        // only player 0 has to breathe, and does so as late as may be
        ordered(x, 5, 1, -1, -1, 0, -1);
        CHECK.due("P36 no such tone", x.leaves(3, 0, 4), -1);
        CHECK.due("P36 tone below 0", x.leaves(3, 0, -1), -1);
        // marks do not count, rests do
        LipsAndSlides y = Check.deskOf(DESK + man(4, 0) + man(4, 0) + beats(14, 14));
        ordered(y, 1, -1, -1, -1);
        ordered(y, 3, 2, 0, 1);
        LipsAndSlides z = Check.deskOf(DESK + man(4, 0) + man(4, 0) + beats(4, -1, 4, -1));
        ordered(z, 1, 0, -1, -1, -1, -1);
        ordered(z, 3, 0, -1, -1, -1, -1);
        // a tone left out takes no air of who leaves it
        LipsAndSlides v = Check.deskOf(DESK + man(2, 0) + man(9, 0) + beats(9, 2));
        ordered(v, 1, -1, -1, -1);
        ordered(v, 3, 2, 0, 1);
        ordered(Check.deskOf(DESK + man(2, 0) + man(8, 0) + beats(9, 2)), 3, -1, -1, -1);
        LipsAndSlides w = Check.deskOf(DESK + man(2, 0) + man(11, 0) + beats(9, 2));
        ordered(w, 3, 1, 0, -1);
        // lips and hands aside: there is no way for 23
        LipsAndSlides u = Check.deskOf(DESK + man(2, 0) + "part;tone 23 for 2;");
        ordered(u, 1, 0, -1);
        ordered(Check.deskOf(DESK + man(1, 0) + "part;"), 1, 0, -1);
    }

    private static void threeDoubles() {
        LipsAndSlides x = Check.deskOf(DESK + man(4, 0) + man(4, 0) + man(4, 0) + man(30, 0)
                + beats(1, 1, 1, 1, 1, 1, 1));
        // each of three has to breathe once in seven beats: at the latest behind 2, 3, 4 together
        ordered(x, 7, 3, -1, -1, 0, 1, 2, -1, -1);
        ordered(x, 11, 2, -1, -1, -1, 0, 1, -1, -1);
        ordered(x, 9, 1, -1, -1, -1, -1, 0, -1, -1);
        CHECK.due("P35 four", x.doubles(15, 0), -2);
        CHECK.due("P36 four", x.leaves(15, 0, 0), -2);
    }

    private static void line() {
        LipsAndSlides x = Check.deskOf(DESK + man(4, 0) + man(4, 0) + man(4, 0) + man(8, 0)
                + beats(2, 2, 2, 2) + beats(9) + beats(2, 2, 2, 2, 2, 2, 2, 2));
        CHECK.due("P37 one alone", x.line(0), 8);
        CHECK.due("P37 nobody", x.line(1), -1);
        CHECK.due("P37 two: the least bits", x.line(2), 3);
        LipsAndSlides y = Check.deskOf(DESK + man(3, 0) + man(3, 0) + man(3, 0) + man(1, 0) + beats(1, 1, 1, 1, 1, 1));
        CHECK.due("P37 two of 3 beats", y.line(0), 3);
        LipsAndSlides z = Check.deskOf(DESK + man(1, 0) + man(1, 0) + man(1, 0) + beats(1, 1));
        CHECK.due("P37 two by turns", z.line(0), 3);
        CHECK.due("P35 of three, two would have to leave one out", z.doubles(7, 0), -1);
        LipsAndSlides w = Check.deskOf(DESK + beats(1));
        CHECK.due("P37 no players", w.line(0), -1);
        LipsAndSlides v = Check.deskOf(DESK + man(1, 0) + "part;");
        CHECK.due("P37 nothing to play", v.line(0), 1);
        CHECK.due("P37 no such part", v.line(1), -2);
        CHECK.due("P37 part below 0", v.line(-1), -2);
    }

    private static void noneSuch() {
        LipsAndSlides x = Check.deskOf(DESK + man(4, 9) + man(4, 9) + beats(1));
        int[][] pairs = {{2, 0}, {0, 1}, {-1, 0}, {0, -1}};
        for (int[] p : pairs) {
            CHECK.due("P29 none such", x.breaths(p[0], p[1]), -2);
            CHECK.due("P30 none such", x.marks(p[0], p[1]), -2);
            CHECK.due("P31 none such", x.choked(p[0], p[1]), -2);
            CHECK.due("P32 none such", x.load(p[0], p[1], 0), -2);
            CHECK.due("P33 none such", x.tired(p[0], p[1]), -2);
            CHECK.due("P34 none such", x.spared(p[0], p[1]), -2);
        }
        int[] sets = {0, -1, 4, 5, 1 << 30, 1 << 31, Integer.MAX_VALUE};
        for (int set : sets) {
            CHECK.due("P35 no such set " + set, x.doubles(set, 0), -2);
            CHECK.due("P36 no such set " + set, x.leaves(set, 0, 0), -2);
        }
        CHECK.due("P35 no such part", x.doubles(1, 1), -2);
        CHECK.due("P36 no such part", x.leaves(1, 1, 0), -2);
        CHECK.due("P36 part below 0", x.leaves(1, -1, 0), -2);
        CHECK.due("P36 no such set, nor tone", x.leaves(0, 0, 7), -2);
    }
}
