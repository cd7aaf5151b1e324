import java.util.ArrayList;
import java.util.List;

/** A call that is refused: its answer, and that all is as it was behind it. */
public final class RefusedTest {
    private static final Check CHECK = new Check("RefusedTest");
    private static final int FAR = Integer.MAX_VALUE;
    private static final int FAR_BELOW = Integer.MIN_VALUE;
    private static final String TEXT = "desk cents 20 highest 8;bugle base 10 long 500;"
            + "horn base 10 long 500 valves 61 30 95 draws 20;player 1 quick 9 air 8 lips 20;player 0 quick 0 air 2 lips 0;"
            + "part;tone 34 for 1 slurred;tone 33 for 2;rest 3;tone 34 for 4 breath;part;rest 9;";
    private static final String NEXT = "desk cents 7 highest 3;part;part;";

    public static void main(String[] args) {
        feed();
        end();
        desk();
        deskWithoutOne();
        changes();
        keep();
        back();
        row();
        write();
        paste();
        asks();
        CHECK.finish();
    }

    /** A desk, a fault told, a text on the tape that is right, rows in slots 0 and 1, an image in 1. */
    private static LipsAndSlides busy() {
        LipsAndSlides x = Check.deskOf(TEXT);
        x.keep(1);
        x.train(0, 2, 9);
        Check.feedText(x, "desk ;");
        x.desk();
        x.end(0);
        Check.feedText(x, NEXT);
        Check.rowOf(x, 0, 1, 0, 0, 0);
        Check.rowOf(x, 1, 3, 34, 0);
        return x;
    }

    /** All that can be seen without changing anything. */
    private static List<Integer> seen(LipsAndSlides x) {
        List<Integer> all = new ArrayList<>();
        for (int what = 0; what < 8; what++) {
            all.add(x.count(what));
            all.add(x.fault(what));
        }
        for (int a = 0; a < 5; a++) {
            for (int what = 0; what < 7; what++) {
                all.add(x.brass(a, what));
                all.add(x.player(a, what));
                for (int i = 0; i < 5; i++) {
                    all.add(x.tone(a, i, what));
                }
            }
            all.add(x.heard(a));
            for (int player = 0; player < 2; player++) {
                all.add(x.judge(a, player, 0));
                all.add(x.told(a, player, 0));
                all.add(x.many(player, a));
            }
        }
        return all;
    }

    private static void stays(String call, LipsAndSlides x, int got, int want, List<Integer> before) {
        CHECK.due(call, got, want);
        CHECK.holds(call + ": all stays", seen(x).equals(before));
    }

    private static void isBusyStill(String call, LipsAndSlides x) {
        CHECK.holds(call + ": as if it had not been", seen(x).equals(seen(busy())));
        CHECK.due(call + ": the tape tells its text still", x.desk(), 3);
        CHECK.due(call + ": its cents", x.count(0), 7);
        CHECK.due(call + ": nothing in image 0", x.back(0), -6);
        CHECK.due(call + ": image 1", x.back(1), 0);
        CHECK.due(call + ": as it was kept", x.player(0, 2), 8);
        CHECK.due(call + ": nothing in image 2", x.back(2), -6);
    }

    private static void feed() {
        for (int length = 1981; length <= 2000; length++) {
            LipsAndSlides x = Check.deskOf(TEXT);
            Check.feedText(x, NEXT + " ".repeat(length - NEXT.length()));
            List<Integer> before = seen(x);
            stays("P2 feed behind " + length, x, x.feed(-1, -1, -1, -1, -1), -1, before);
            stays("P2 once more behind " + length, x, x.feed(0, 0, 0, 0, 0), -1, before);
            CHECK.due("P2 the text is as it was behind " + length, x.desk(), 3);
        }
    }

    private static void end() {
        LipsAndSlides x = busy();
        List<Integer> before = seen(x);
        int length = NEXT.length();
        for (int n : new int[] {-1, -2, FAR_BELOW, length + 1, length + 2, 2000, 2001, FAR}) {
            stays("P3 end(" + n + ")", x, x.end(n), -1, before);
        }
        isBusyStill("P3", x);
    }

    private static void desk() {
        LipsAndSlides x = busy();
        Check.feedText(x, "part;tone 61 for 1;");
        List<Integer> before = seen(x);
        CHECK.due("P4 a FAULT", x.desk(), -4);
        CHECK.due("P5 its kind", x.fault(0), 2);
        CHECK.due("P5 its place", x.fault(1), NEXT.length() + 10);
        List<Integer> after = seen(x);
        // the fault itself is of the latest desk(): both stand behind the first two counts
        after.set(1, before.get(1));
        after.set(3, before.get(3));
        CHECK.holds("P4 all stays, but the FAULT told", after.equals(before));
        CHECK.due("P4 it stays so", x.desk(), -4);
        x.end(NEXT.length());
        CHECK.due("P4 the TAPE has its bytes still", x.desk(), 3);
        CHECK.due("P5 no FAULT then", x.fault(0), 0);
        CHECK.due("P57 the images stay", x.back(1), 0);
        CHECK.due("P57 as it was kept", x.player(0, 2), 8);
    }

    private static void deskWithoutOne() {
        LipsAndSlides x = new LipsAndSlides();
        Check.feedText(x, "desk cents 20 highest 8;part;tone 61 for 1;");
        CHECK.due("P4 a FAULT at first", x.desk(), -4);
        CHECK.due("P4 there is no DESK", x.shared(), -2);
        for (int what = 0; what < 6; what++) {
            CHECK.due("P4 nothing of it, " + what, x.count(what), 0);
        }
        CHECK.due("P4 no PART", x.tones(0), -2);
    }

    private static void changes() {
        LipsAndSlides x = busy();
        List<Integer> before = seen(x);
        int[][] train = {{-1, 1, 1}, {2, 1, 1}, {FAR, 1, 1}, {FAR_BELOW, 1, 1}, {0, 0, 1}, {0, 4, 1}, {0, -1, 1}, {0, FAR, 1},
            {0, 1, -1}, {0, 1, 10}, {0, 1, FAR}, {0, 1, FAR_BELOW}, {0, 2, 0}, {0, 2, 31}, {0, 2, -1}, {0, 3, -1}, {0, 3, 1000}};
        for (int[] t : train) {
            stays("P47 train(" + t[0] + ", " + t[1] + ", " + t[2] + ")", x, x.train(t[0], t[1], t[2]), -2, before);
        }
        int[][] tune = {{-1, 500}, {2, 500}, {4, 500}, {FAR, 500}, {0, 99}, {0, 1000}, {0, 0}, {0, -500}, {1, FAR}, {1, FAR_BELOW}};
        for (int[] t : tune) {
            stays("P48 tune(" + t[0] + ", " + t[1] + ")", x, x.tune(t[0], t[1]), -2, before);
        }
        // no PART, no TONE, a rest; then the bounds of what is set
        int[][] tones = {{-1, 0, 1}, {2, 0, 1}, {3, 0, 1}, {FAR, 0, 1}, {0, -1, 1}, {0, 4, 1}, {0, FAR, 1}, {0, FAR_BELOW, 1},
            {0, 2, 1}, {0, 2, 0}, {1, 0, 1}, {1, 1, 1}, {0, 0, -1}, {0, 0, 61}, {0, 0, FAR}, {0, 0, FAR_BELOW}};
        for (int[] t : tones) {
            stays("P49 pitch(" + t[0] + ", " + t[1] + ", " + t[2] + ")", x, x.pitch(t[0], t[1], t[2]), -2, before);
            stays("P50 slur(" + t[0] + ", " + t[1] + ", " + t[2] + ")", x, x.slur(t[0], t[1], t[2]), -2, before);
        }
        stays("P50 slur(0, 0, 2)", x, x.slur(0, 0, 2), -2, before);
        isBusyStill("P47 to P50", x);
    }

    private static void keep() {
        LipsAndSlides x = busy();
        List<Integer> before = seen(x);
        for (int k : new int[] {-1, 3, FAR, FAR_BELOW}) {
            stays("P56 keep(" + k + ")", x, x.keep(k), -2, before);
        }
        isBusyStill("P56", x);
    }

    private static void back() {
        LipsAndSlides x = busy();
        List<Integer> before = seen(x);
        for (int k : new int[] {-1, 3, FAR, FAR_BELOW}) {
            stays("P57 back(" + k + ")", x, x.back(k), -2, before);
        }
        stays("P57 back(0)", x, x.back(0), -6, before);
        stays("P57 back(2)", x, x.back(2), -6, before);
        isBusyStill("P57", x);
    }

    private static void row() {
        LipsAndSlides x = busy();
        List<Integer> before = seen(x);
        int[][] none = {{-1, 0, 1}, {4, 0, 1}, {FAR, 0, 1}, {FAR_BELOW, 0, 1}, {0, -1, 1}, {0, 4, 1}, {0, FAR, 1}, {0, FAR_BELOW, 1},
            {0, 0, 61}, {0, 3, FAR}, {2, 0, 61}, {4, 0, -1}, {0, 4, -1}, {-1, -1, -1}, {0, -1, FAR_BELOW}};
        for (int[] r : none) {
            stays("P58 row(" + r[0] + ", " + r[1] + ", " + r[2] + ")", x, x.row(r[0], r[1], r[2]), -2, before);
        }
        for (int slot = 0; slot < 4; slot++) {
            stays("P58 row(" + slot + ", 0, -1)", x, x.row(slot, 0, -1), -3, before);
            stays("P58 row(" + slot + ", 3, far below)", x, x.row(slot, 3, FAR_BELOW), -3, before);
        }
        isBusyStill("P58", x);
    }

    private static void write() {
        LipsAndSlides x = busy();
        List<Integer> before = seen(x);
        for (int slot : new int[] {-1, 4, FAR, FAR_BELOW}) {
            stays("P59 no such SLOT", x, x.write(slot, 0, 1), -2, before);
            stays("P59 no such SLOT, nor number", x, x.write(slot, -1, 1), -2, before);
        }
        for (int i : new int[] {0, -1, 60, FAR}) {
            stays("P59 it has nothing", x, x.write(2, i, 1), -6, before);
            stays("P59 it has nothing", x, x.write(3, i, 1), -6, before);
        }
        for (int i : new int[] {-1, FAR_BELOW, 3, 4, 59, 60, FAR}) {
            stays("P59 no number " + i, x, x.write(0, i, 1), -7, before);
        }
        stays("P59 no number 2", x, x.write(1, 2, 1), -7, before);
        isBusyStill("P59", x);
    }

    private static void paste() {
        LipsAndSlides x = busy();
        List<Integer> before = seen(x);
        int[][] none = {{-1, 0, 0, 0, 1}, {4, 0, 0, 0, 1}, {0, 0, -1, 0, 1}, {0, 0, 4, 0, 1}, {2, 0, 4, 0, 1}, {4, -1, 2, -1, -1},
            {FAR, 0, 0, 0, 1}, {0, 0, FAR_BELOW, 0, 1}};
        for (int[] p : none) {
            stays("P60 no such SLOT", x, x.paste(p[0], p[1], p[2], p[3], p[4]), -2, before);
        }
        int[][] nothing = {{0, 0, 2, 0, 1}, {2, 0, 0, 0, 1}, {2, 0, 3, 0, 0}, {2, 0, 2, 0, 0}, {0, -1, 3, -1, -1}, {3, 9, 1, 9, 9}};
        for (int[] p : nothing) {
            stays("P60 one has nothing", x, x.paste(p[0], p[1], p[2], p[3], p[4]), -6, before);
        }
        int[][] unlike = {{0, 0, 1, 0, 1}, {1, 0, 0, 0, 1}, {0, 0, 1, 0, 0}, {0, -1, 1, 0, 1}, {1, 0, 0, 0, FAR}, {1, 0, 0, 0, -1}};
        for (int[] p : unlike) {
            stays("P60 not of one WIDTH", x, x.paste(p[0], p[1], p[2], p[3], p[4]), -8, before);
        }
        int[][] beyond = {{-1, 0, 1}, {0, -1, 1}, {0, 0, -1}, {0, 0, 4}, {1, 0, 3}, {0, 1, 3}, {3, 0, 1}, {0, 3, 1}, {2, 0, 2},
            {0, 2, 2}, {FAR, 0, 1}, {0, FAR, 1}, {0, 0, FAR}, {FAR, FAR, FAR}, {1, 1, FAR}, {FAR_BELOW, 0, 1}, {0, 0, FAR_BELOW}};
        for (int[] p : beyond) {
            stays("P60 beyond", x, x.paste(0, p[0], 0, p[1], p[2]), -7, before);
        }
        isBusyStill("P60", x);
    }

    /** Calls that only ask, with arguments far outside. */
    private static void asks() {
        LipsAndSlides x = busy();
        List<Integer> before = seen(x);
        for (int far : new int[] {-1, FAR, FAR_BELOW}) {
            x.off(1, far, far, far);
            x.way(1, far, far, far);
            x.move(1, far, far);
            x.chosen(0, 0, far, far);
            x.put(0, 0, far);
            x.load(0, 0, far);
            x.leaves(far, 0, far);
            x.doubles(far, far);
            x.clean(far, far, 0, 0);
            x.quick(0, 0);
            x.cents(0, 0);
            x.moved(0, 0);
            x.shift(0, 0);
            x.line(0);
            x.shared();
            CHECK.holds("asking changes nothing", seen(x).equals(before));
        }
        isBusyStill("asks", x);
    }
}
