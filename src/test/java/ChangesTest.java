/** Promises 47 to 57: changes of the desk, what parts and the desk have, images. */
public final class ChangesTest {
    private static final Check CHECK = new Check("ChangesTest");
    private static final String TEXT = "desk cents 20 highest 8;bugle base 10 long 500;"
            + "horn base 10 long 500 valves 61 30 95 draws 20;player 1 quick 1 air 8 lips 20;player 0 quick 0 air 2 lips 0;"
            + "part;tone 34 for 1 slurred;tone 33 for 2;rest 3;tone 34 for 4 breath;part;part;rest 9;";

    public static void main(String[] args) {
        train();
        tune();
        pitch();
        slur();
        lengths();
        phrase();
        pitches();
        count();
        images();
        imagesOfNothing();
        CHECK.finish();
    }

    private static void train() {
        LipsAndSlides x = Check.deskOf(TEXT);
        int[][] good = {{0, 1, 0, 1}, {0, 1, 9, 0}, {0, 2, 1, 8}, {0, 2, 30, 1}, {0, 3, 0, 20}, {0, 3, 999, 0}, {1, 3, 7, 0}};
        for (int[] g : good) {
            CHECK.due("P47 what it was", x.train(g[0], g[1], g[2]), g[3]);
            CHECK.due("P47 what it is", x.player(g[0], g[1]), g[2]);
        }
        CHECK.due("P47 the other stays", x.player(0, 3), 999);
        int[][] bad = {{0, 1, -1}, {0, 1, 10}, {0, 2, 0}, {0, 2, 31}, {0, 3, -1}, {0, 3, 1000}, {0, 0, 0}, {0, 4, 1},
            {0, -1, 1}, {2, 1, 1}, {-1, 1, 1}};
        for (int[] b : bad) {
            CHECK.due("P47 none such " + b[0] + " " + b[1] + " " + b[2], x.train(b[0], b[1], b[2]), -2);
        }
        CHECK.due("P47 quick stays", x.player(0, 1), 9);
        CHECK.due("P47 air stays", x.player(0, 2), 30);
        CHECK.due("P47 lips stay", x.player(0, 3), 999);
        CHECK.due("P47 brass stays", x.player(0, 0), 1);
        CHECK.due("P47 more plays now", x.many(0, 0), 8);
        x.train(0, 1, 0);
        CHECK.due("P47 no plays now", x.many(0, 0), 0);
    }

    private static void tune() {
        LipsAndSlides x = Check.deskOf(TEXT);
        CHECK.due("P48 flat ahead", x.flat(1, 1), 199);
        CHECK.due("P48 what it was", x.tune(1, 999), 500);
        CHECK.due("P48 what it is", x.brass(1, 2), 999);
        CHECK.due("P48 flat then", x.flat(1, 1), 3462 * 61 / 2059);
        CHECK.due("P48 the other stays", x.brass(0, 2), 500);
        CHECK.due("P48 the least", x.tune(1, 100), 999);
        CHECK.due("P48 too short", x.tune(1, 99), -2);
        CHECK.due("P48 too long", x.tune(1, 1000), -2);
        CHECK.due("P48 no such brass", x.tune(2, 500), -2);
        CHECK.due("P48 brass below 0", x.tune(-1, 500), -2);
        CHECK.due("P48 it stays", x.brass(1, 2), 100);
    }

    private static void pitch() {
        LipsAndSlides x = Check.deskOf(TEXT);
        CHECK.due("P49 what it had", x.pitch(0, 0, 60), 34);
        CHECK.due("P49 what it has", x.tone(0, 0, 0), 60);
        CHECK.due("P49 the least", x.pitch(0, 0, 0), 60);
        CHECK.due("P49 stuck", x.stuck(0, 0), 0);
        CHECK.due("P49 61", x.pitch(0, 0, 61), -2);
        CHECK.due("P49 below 0", x.pitch(0, 0, -1), -2);
        CHECK.due("P49 a rest", x.pitch(0, 2, 5), -2);
        CHECK.due("P49 it is one still", x.tone(0, 2, 0), -1);
        CHECK.due("P49 no such tone", x.pitch(0, 4, 5), -2);
        CHECK.due("P49 tone below 0", x.pitch(0, -1, 5), -2);
        CHECK.due("P49 of an empty part", x.pitch(1, 0, 5), -2);
        CHECK.due("P49 no such part", x.pitch(3, 0, 5), -2);
        CHECK.due("P49 part below 0", x.pitch(-1, 0, 5), -2);
        CHECK.due("P49 it stays", x.tone(0, 0, 0), 0);
        CHECK.due("P49 beats stay", x.tone(0, 0, 1), 1);
    }

    private static void slur() {
        LipsAndSlides x = Check.deskOf(TEXT);
        CHECK.due("P50 it was", x.slur(0, 0, 0), 1);
        CHECK.due("P50 it is not", x.tone(0, 0, 2), 0);
        CHECK.due("P50 it was not", x.slur(0, 0, 1), 0);
        CHECK.due("P50 it is", x.tone(0, 0, 2), 1);
        CHECK.due("P50 again", x.slur(0, 0, 1), 1);
        CHECK.due("P50 2", x.slur(0, 0, 2), -2);
        CHECK.due("P50 -1", x.slur(0, 0, -1), -2);
        CHECK.due("P50 a rest", x.slur(0, 2, 1), -2);
        CHECK.due("P50 it is none", x.tone(0, 2, 2), 0);
        CHECK.due("P50 no such tone", x.slur(0, 4, 1), -2);
        CHECK.due("P50 tone below 0", x.slur(0, -1, 1), -2);
        CHECK.due("P50 no such part", x.slur(3, 0, 1), -2);
        CHECK.due("P50 part below 0", x.slur(-1, 0, 1), -2);
        CHECK.due("P50 it stays", x.tone(0, 0, 2), 1);
    }

    private static void lengths() {
        LipsAndSlides x = Check.deskOf(TEXT);
        int[] beats = {10, 0, 9};
        int[] tones = {4, 0, 1};
        for (int part = 0; part < 3; part++) {
            CHECK.due("P51 beats " + part, x.beats(part), beats[part]);
            CHECK.due("P55 tones " + part, x.tones(part), tones[part]);
        }
        CHECK.due("P51 no such part", x.beats(3), -2);
        CHECK.due("P51 part below 0", x.beats(-1), -2);
        CHECK.due("P55 no such part", x.tones(3), -2);
        CHECK.due("P55 part below 0", x.tones(-1), -2);
    }

    private static void phrase() {
        LipsAndSlides x = Check.deskOf(TEXT);
        CHECK.due("P52 most", x.phrase(0, 0), 4);
        CHECK.due("P52 its first", x.phrase(0, 1), 3);
        CHECK.due("P52 of no tones", x.phrase(1, 0), 0);
        CHECK.due("P52 first of no tones", x.phrase(1, 1), -1);
        CHECK.due("P52 of rests", x.phrase(2, 0), 0);
        CHECK.due("P52 first of rests", x.phrase(2, 1), -1);
        CHECK.due("P52 no such what", x.phrase(0, 2), -2);
        CHECK.due("P52 what below 0", x.phrase(0, -1), -2);
        CHECK.due("P52 no such part", x.phrase(3, 0), -2);
        CHECK.due("P52 part below 0", x.phrase(-1, 1), -2);
        LipsAndSlides y = Check.deskOf("desk cents 1 highest 2;part;rest 1;tone 1 for 2;tone 1 for 1;rest 1;tone 1 for 3;"
                + "part;tone 1 for 1;rest 1;tone 1 for 1;tone 1 for 1;");
        CHECK.due("P52 of equals", y.phrase(0, 0), 3);
        CHECK.due("P52 the first of equals", y.phrase(0, 1), 1);
        CHECK.due("P52 a later one", y.phrase(1, 1), 2);
    }

    private static void pitches() {
        LipsAndSlides x = Check.deskOf(TEXT);
        CHECK.due("P53 two", x.pitches(0), 2);
        CHECK.due("P53 of no tones", x.pitches(1), 0);
        CHECK.due("P53 of rests", x.pitches(2), 0);
        CHECK.due("P53 no such part", x.pitches(3), -2);
        CHECK.due("P53 part below 0", x.pitches(-1), -2);
        LipsAndSlides y = Check.deskOf("desk cents 1 highest 2;part;tone 0 for 1;tone 60 for 1;tone 0 for 1;tone 32 for 1;");
        CHECK.due("P53 0, 32 and 60", y.pitches(0), 3);
    }

    private static void count() {
        LipsAndSlides x = Check.deskOf(TEXT);
        int[] want = {20, 8, 2, 2, 3, 13, 0, 0};
        Check.feedText(x, "abc");
        want[6] = 3;
        x.row(1, 0, 0);
        x.row(3, 3, 60);
        x.row(3, 0, 1);
        want[7] = 2;
        for (int what = 0; what < 8; what++) {
            CHECK.due("P54 count(" + what + ")", x.count(what), want[what]);
        }
        CHECK.due("P54 8", x.count(8), -1);
        CHECK.due("P54 -1", x.count(-1), -1);
    }

    private static void images() {
        LipsAndSlides x = Check.deskOf(TEXT);
        CHECK.due("P57 nothing yet", x.back(0), -6);
        CHECK.due("P56 keep", x.keep(0), 0);
        x.train(0, 2, 4);
        x.tune(1, 400);
        x.pitch(0, 1, 30);
        x.slur(0, 0, 0);
        CHECK.due("P56 keep another", x.keep(2), 0);
        Check.feedText(x, "desk cents 5 highest 3;");
        x.desk();
        Check.feedText(x, "part;");
        x.desk();
        x.row(0, 0, 1);
        CHECK.due("P57 back", x.back(0), 0);
        CHECK.due("P57 air", x.player(0, 2), 8);
        CHECK.due("P57 long", x.brass(1, 2), 500);
        CHECK.due("P57 pitch", x.tone(0, 1, 0), 33);
        CHECK.due("P57 slurred", x.tone(0, 0, 2), 1);
        CHECK.due("P57 cents", x.count(0), 20);
        CHECK.due("P57 highest", x.count(1), 8);
        CHECK.due("P57 lines", x.count(5), 13);
        CHECK.due("P57 the tape is not the image's", x.count(6), 5);
        CHECK.due("P57 nor the slots", x.count(7), 1);
        CHECK.due("P57 nor the fault", x.fault(0), 1);
        x.train(0, 2, 5);
        CHECK.due("P57 back again", x.back(0), 0);
        CHECK.due("P57 the image has not changed", x.player(0, 2), 8);
        CHECK.due("P57 back to another", x.back(2), 0);
        CHECK.due("P57 its air", x.player(0, 2), 4);
        CHECK.due("P57 its long", x.brass(1, 2), 400);
        CHECK.due("P57 its pitch", x.tone(0, 1, 0), 30);
        CHECK.due("P56 in place of another", x.keep(0), 0);
        x.train(0, 2, 9);
        x.back(0);
        CHECK.due("P56 it is the later one", x.player(0, 2), 4);
        CHECK.due("P57 1 has nothing", x.back(1), -6);
        CHECK.due("P56 3", x.keep(3), -2);
        CHECK.due("P56 -1", x.keep(-1), -2);
        CHECK.due("P57 3", x.back(3), -2);
        CHECK.due("P57 -1", x.back(-1), -2);
    }

    private static void imagesOfNothing() {
        LipsAndSlides x = new LipsAndSlides();
        CHECK.due("P56 no desk", x.keep(1), 0);
        Check.feedText(x, TEXT);
        x.desk();
        CHECK.due("P57 back to no desk", x.back(1), 0);
        CHECK.due("P57 there is none", x.count(5), 0);
        CHECK.due("P57 no part", x.tones(0), -2);
        CHECK.due("P57 nothing shared", x.shared(), -2);
    }
}
