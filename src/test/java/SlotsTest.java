/** Promises 58 to 60: rows of numbers in slots. A way told by a slot shows what it holds. */
public final class SlotsTest {
    private static final Check CHECK = new Check("SlotsTest");

    public static void main(String[] args) {
        row();
        write();
        paste();
        pasteWithin();
        CHECK.finish();
    }

    /** All eight settings of this horn are alike, so a row of ways 0 .. 7 shows its numbers by their cost. */
    private static LipsAndSlides loose(int tones) {
        return Check.deskOf("desk cents 20 highest 4;horn base 10 long 500 valves 0 0 0 draws 0;"
                + "player 0 quick 9 air 30 lips 999;part;" + "tone 34 for 1;".repeat(tones));
    }

    private static void row() {
        LipsAndSlides x = loose(2);
        CHECK.due("P58 row", x.row(0, 0, 2), 0);
        CHECK.due("P58 all 0", x.told(0, 0, 0), 0);
        x.write(0, 0, 7);
        CHECK.due("P58 written", x.told(0, 0, 0), 3);
        CHECK.due("P58 below 0", x.row(0, 0, -1), -3);
        CHECK.due("P58 far below 0", x.row(0, 0, Integer.MIN_VALUE), -3);
        CHECK.due("P58 it stays", x.told(0, 0, 0), 3);
        CHECK.due("P58 above 60", x.row(0, 0, 61), -2);
        CHECK.due("P58 far above 60", x.row(0, 0, Integer.MAX_VALUE), -2);
        CHECK.due("P58 no such width", x.row(0, 4, 1), -2);
        CHECK.due("P58 width below 0", x.row(0, -1, 1), -2);
        CHECK.due("P58 no such slot", x.row(4, 0, 1), -2);
        CHECK.due("P58 slot below 0", x.row(-1, 0, 1), -2);
        CHECK.due("P58 no such slot, below 0", x.row(4, 0, -1), -2);
        CHECK.due("P58 it stays still", x.told(0, 0, 0), 3);
        CHECK.due("P58 in place of another", x.row(0, 0, 2), 0);
        CHECK.due("P58 all 0 again", x.told(0, 0, 0), 0);
        x.write(0, 0, 7);
        x.row(0, 3, 0);
        x.row(0, 3, 60);
        CHECK.due("P58 nothing is left of the first", x.told(0, 0, 0), 0);
        for (int width = 0; width < 4; width++) {
            CHECK.due("P58 the longest", x.row(width, width, 60), 0);
            CHECK.due("P59 its last", x.write(width, 59, 1), 0);
            CHECK.due("P59 behind it", x.write(width, 60, 1), -7);
        }
        CHECK.due("P58 four", x.count(7), 4);
        x.row(2, 0, 0);
        CHECK.due("P58 an empty one is one", x.count(7), 4);
    }

    private static void write() {
        LipsAndSlides x = loose(1);
        CHECK.due("P59 nothing there", x.write(0, 0, 1), -6);
        CHECK.due("P59 no such slot", x.write(4, 0, 1), -2);
        CHECK.due("P59 slot below 0", x.write(-1, 0, 1), -2);
        x.row(0, 0, 0);
        CHECK.due("P59 of none", x.write(0, 0, 1), -7);
        long[] wide = {1L << 8, 1L << 16, 1L << 32, 0};
        for (int width = 0; width < 4; width++) {
            x.row(0, width, 1);
            CHECK.due("P59 below 0", x.write(0, -1, 1), -7);
            CHECK.due("P59 beyond", x.write(0, 1, 1), -7);
            CHECK.due("P59 far beyond", x.write(0, Integer.MAX_VALUE, 1), -7);
            CHECK.due("P59 written", x.write(0, 0, wide[width] + 5), 0);
            CHECK.due("P59 cut", x.judge(0, 0, 0), 1);
            if (width > 0) {
                x.write(0, 0, wide[width - 1] + 5);
                CHECK.due("P59 not cut so far", x.judge(0, 0, 0), 0);
            }
            x.write(0, 0, -1);
            CHECK.due("P59 -1 is no way", x.judge(0, 0, 0), 0);
            x.write(0, 0, Long.MIN_VALUE);
            CHECK.due("P59 the least", x.judge(0, 0, 0), width == 3 ? 0 : 1);
            x.write(0, 0, 7);
            CHECK.due("P59 seven", x.judge(0, 0, 0), 1);
            x.write(0, 0, 8);
            CHECK.due("P59 eight", x.judge(0, 0, 0), 0);
        }
    }

    private static void paste() {
        LipsAndSlides x = loose(3);
        CHECK.due("P60 nothing there", x.paste(0, 0, 1, 0, 0), -6);
        Check.rowOf(x, 0, 1, 1, 3, 7);
        CHECK.due("P60 nothing at the other", x.paste(0, 0, 1, 0, 1), -6);
        CHECK.due("P60 nothing at the first", x.paste(1, 0, 0, 0, 1), -6);
        x.row(1, 2, 3);
        CHECK.due("P60 not of one width", x.paste(0, 0, 1, 0, 1), -8);
        CHECK.due("P60 width ahead of places", x.paste(0, 9, 1, -1, 1), -8);
        x.row(1, 1, 3);
        CHECK.due("P60 all", x.paste(0, 0, 1, 0, 3), 0);
        CHECK.due("P60 as they were: 1, 3, 7", x.told(1, 0, 0), 2);
        x.row(1, 1, 3);
        CHECK.due("P60 two behind", x.paste(0, 1, 1, 1, 2), 0);
        CHECK.due("P60 it is 0, 3, 7", x.told(1, 0, 0), 3);
        CHECK.due("P60 the first stays 1, 3, 7", x.told(0, 0, 0), 2);
        int[][] beyond = {{1, 0, 3}, {0, 1, 3}, {-1, 0, 1}, {0, -1, 1}, {0, 0, -1}, {3, 0, 1}, {0, 3, 1}, {4, 0, 0}, {0, 4, 0},
            {Integer.MAX_VALUE, 0, 1}, {0, Integer.MAX_VALUE, Integer.MAX_VALUE}, {0, 0, Integer.MIN_VALUE}};
        for (int[] b : beyond) {
            CHECK.due("P60 beyond", x.paste(0, b[0], 1, b[1], b[2]), -7);
        }
        CHECK.due("P60 nothing happened", x.told(1, 0, 0), 3);
        CHECK.due("P60 none, at the end", x.paste(0, 3, 1, 3, 0), 0);
        CHECK.due("P60 nothing happened by it", x.told(1, 0, 0), 3);
        CHECK.due("P60 no such slot", x.paste(4, 0, 1, 0, 1), -2);
        CHECK.due("P60 no such slot to put to", x.paste(0, 0, -1, 0, 1), -2);
        CHECK.due("P60 no such slot, nothing at the other", x.paste(2, 0, 4, 0, 1), -2);
    }

    private static void pasteWithin() {
        LipsAndSlides x = loose(4);
        Check.rowOf(x, 0, 0, 1, 3, 7, 0);
        // moves are 1, 1, 3
        CHECK.due("P60 told ahead", x.told(0, 0, 0), 5);
        CHECK.due("P60 up within itself", x.paste(0, 0, 0, 1, 3), 0);
        // 1, 1, 3, 7: each as it was
        CHECK.due("P60 told then", x.told(0, 0, 0), 2);
        CHECK.due("P60 down within itself", x.paste(0, 2, 0, 0, 2), 0);
        // 3, 7, 3, 7
        CHECK.due("P60 told at last", x.told(0, 0, 0), 3);
        CHECK.due("P60 on itself", x.paste(0, 0, 0, 0, 4), 0);
        CHECK.due("P60 it is the same", x.told(0, 0, 0), 3);
    }
}
