/**
 * Promise by promise, each sentence that names an edge: the last one there and the first that is not, on both
 * sides; nothing there, and all full; and which answer is given where several could be.
 */
public final class EdgesTest {
    private static final Check CHECK = new Check("EdgesTest");
    private static final int FAR = Integer.MAX_VALUE;
    private static final int FAR_BELOW = Integer.MIN_VALUE;
    private static final String FIRST = "desk cents 20 highest 8;";
    private static final String BUGLE = "bugle base 10 long 500;";
    private static final String HORN = "horn base 10 long 500 valves 61 30 95 draws 20;";
    private static final String SLIDE = "slide base 3 long 600 step 37;";
    private static final String SLACK_SLIDE = "slide base 10 long 500 step 0;";

    public static void main(String[] args) {
        noDesk();
        feed();
        bytesInOrder();
        end();
        desk();
        fault();
        fullDesk();
        brassPlayerTone();
        offAndDrawn();
        waysAndWay();
        range();
        common();
        move();
        pairs();
        playsAndNone();
        chosen();
        slurs();
        stuck();
        quick();
        cents();
        many();
        movedAndPut();
        shift();
        breathsAndMarks();
        choked();
        loads();
        tiredAndSpared();
        doubles();
        leaves();
        line();
        best();
        sharedAndGiven();
        judge();
        judgeMore();
        heard();
        heardOrder();
        seeds();
        clean();
        train();
        tuneAndPitch();
        lengths();
        phrase();
        count();
        images();
        rows();
        writes();
        pastes();
        askedAgain();
        CHECK.finish();
    }

    private static String man(int brass, int quick, int air, int lips) {
        return "player " + brass + " quick " + quick + " air " + air + " lips " + lips + ";";
    }

    private static LipsAndSlides one(String brass, int quick, String part) {
        return Check.deskOf(FIRST + brass + man(0, quick, 30, 999) + "part;" + part);
    }

    // ---- promises 1 to 8

    private static void noDesk() {
        int[] what = {0, 1, -1, FAR, FAR_BELOW};
        for (int a : what) {
            LipsAndSlides x = new LipsAndSlides();
            int[] none = {x.brass(a, 0), x.player(a, 0), x.tone(a, 0, 0), x.flat(a, 0), x.drawnOut(a, 0, 2, 0), x.ways(a, 0),
                x.way(a, 0, 0, 0), x.range(a, 0), x.common(a, 1), x.move(a, 0, 0), x.plays(a, 0), x.cost(a, 0), x.sour(a, 0),
                x.chosen(a, 0, 0, 0), x.slurs(a, 0, 0), x.stuck(a, 0), x.quick(a, 0), x.cents(a, 0), x.many(a, 0), x.moved(a, 0),
                x.put(a, 0, 0), x.shift(a, 0), x.breaths(a, 0), x.marks(a, 0), x.choked(a, 0), x.load(a, 0, 0), x.tired(a, 0),
                x.spared(a, 0), x.doubles(a, 0), x.leaves(a, 0, 0), x.line(a), x.best(a), x.shared(), x.given(a), x.judge(0, a, 0),
                x.told(0, a, 0), x.heard(a), x.cracks(0, a, 0), x.cracked(0, a, 0), x.clean(0, 1, a, 0), x.train(a, 1, 1),
                x.tune(a, 500), x.pitch(a, 0, 0), x.slur(a, 0, 0), x.beats(a), x.phrase(a, 0), x.pitches(a), x.tones(a)};
            for (int n = 0; n < none.length; n++) {
                CHECK.due("P1 no DESK, call " + n, none[n], -2);
            }
            CHECK.due("P1 no DESK, off", x.off(a, 0, 2, 0), -100000);
            for (int c = 0; c < 8; c++) {
                CHECK.due("P1 no DESK, count " + c, x.count(c), 0);
            }
            for (int k = 0; k < 3; k++) {
                CHECK.due("P1 IMAGE " + k + " has nothing", x.back(k), -6);
            }
            for (int slot = 0; slot < 4; slot++) {
                CHECK.due("P1 SLOT " + slot + " has nothing", x.write(slot, 0, 0), -6);
            }
        }
    }

    private static void feed() {
        LipsAndSlides x = new LipsAndSlides();
        for (int n = 1; n <= 100; n++) {
            CHECK.due("P2 how many it has", x.feed(0x20202020, 0x20202020, 0x20202020, 0x20202020, 0x20202020), 20 * n);
        }
        CHECK.due("P2 more than 2,000", x.feed(0, 0, 0, 0, 0), -1);
        CHECK.due("P2 2,000 are fine", x.count(6), 2000);
        CHECK.due("P2 none of it came", x.desk(), 0);
        for (int kept = 1979; kept <= 1982; kept++) {
            LipsAndSlides y = new LipsAndSlides();
            for (int n = 0; n < 100; n++) {
                y.feed(0, 0, 0, 0, 0);
            }
            y.end(kept);
            CHECK.due("P2 behind " + kept, y.feed(0, 0, 0, 0, 0), kept <= 1980 ? kept + 20 : -1);
            CHECK.due("P2 then it has", y.count(6), kept <= 1980 ? kept + 20 : kept);
        }
    }

    private static void bytesInOrder() {
        // blanks but for one byte, which is no token: its place tells where it came
        for (int at = 0; at < 20; at++) {
            for (int bad : new int[] {0, 1, 127, 128, 255}) {
                int[] four = {0x20202020, 0x20202020, 0x20202020, 0x20202020, 0x20202020};
                int shift = 24 - at % 4 * 8;
                four[at / 4] = four[at / 4] & ~(255 << shift) | bad << shift;
                LipsAndSlides x = new LipsAndSlides();
                x.feed(four[0], four[1], four[2], four[3], four[4]);
                CHECK.due("P2 byte " + bad + " at " + at, x.desk(), -4);
                CHECK.due("P2 its place " + at, x.fault(1), at);
            }
        }
    }

    private static void end() {
        LipsAndSlides x = new LipsAndSlides();
        CHECK.due("P3 0 of 0", x.end(0), 0);
        CHECK.due("P3 1 of 0", x.end(1), -1);
        CHECK.due("P3 -1 of 0", x.end(-1), -1);
        Check.feedText(x, FIRST + "part;part;");
        int length = FIRST.length() + 10;
        CHECK.due("P3 all", x.end(length), length);
        CHECK.due("P3 one more", x.end(length + 1), -1);
        CHECK.due("P3 one less", x.end(length - 1), length - 1);
        CHECK.due("P3 that many are gone", x.end(length), -1);
        // what is cut off does not come back by feeding: blanks stand there then
        x.end(FIRST.length() + 5);
        x.feed(0x20202020, 0x20202020, 0x20202020, 0x20202020, 0x20202020);
        CHECK.due("P3 its first bytes alone", x.desk(), 2);
        Check.feedText(x, FIRST);
        CHECK.due("P3 none at all", x.end(0), 0);
        CHECK.due("P3 an empty TAPE", x.desk(), 0);
    }

    private static void desk() {
        LipsAndSlides x = Check.deskOf(FIRST + BUGLE + man(0, 1, 1, 1) + "part;tone 1 for 1;");
        CHECK.due("P4 five LINES", x.count(5), 5);
        CHECK.due("P4 the TAPE is empty then", x.count(6), 0);
        CHECK.due("P4 an empty TAPE: 0", x.desk(), 0);
        CHECK.due("P4 there is none then", x.shared(), -2);
        for (int what = 0; what < 6; what++) {
            CHECK.due("P4 nothing of it, " + what, x.count(what), 0);
        }
        CHECK.due("P4 no FAULT", x.fault(0), 0);
        Check.feedText(x, FIRST);
        CHECK.due("P4 the least DESK", x.desk(), 1);
        CHECK.due("P4 in place of another: no PLAYER", x.player(0, 0), -2);
        CHECK.due("P4 no PART", x.tones(0), -2);
        CHECK.due("P4 it is one", x.shared(), 0);
        Check.feedText(x, " ");
        CHECK.due("P4 a blank alone: 0", x.desk(), 0);
        CHECK.due("P4 there is none", x.shared(), -2);
        nothingIsLeft();
    }

    private static void nothingIsLeft() {
        // more than two desks one after another: nothing of any older one shows through
        String[] older = {HORN.repeat(4) + man(3, 9, 30, 999).repeat(9) + ("part;" + "tone 60 for 9 slurred breath;".repeat(16)).repeat(3),
            BUGLE + man(0, 1, 1, 1) + "part;tone 1 for 1 slurred breath;"};
        LipsAndSlides x = new LipsAndSlides();
        for (int n = 0; n < 6; n++) {
            Check.feedText(x, FIRST + older[n % 2]);
            x.desk();
            Check.feedText(x, FIRST + BUGLE + "part;rest 1;tone 1 for 1;part;");
            CHECK.due("P4 in place of another", x.desk(), 6);
            int[] want = {20, 8, 1, 0, 2, 6};
            for (int what = 0; what < 6; what++) {
                CHECK.due("P4 its own, " + what, x.count(what), want[what]);
            }
            for (int what = 3; what < 7; what++) {
                CHECK.due("P6 no valves nor draws of an older one", x.brass(0, what), 0);
            }
            for (int i = 0; i < 2; i++) {
                CHECK.due("P8 not slurred", x.tone(0, i, 2), 0);
                CHECK.due("P8 no breath", x.tone(0, i, 3), 0);
            }
            CHECK.due("P55 two TONES", x.tones(0), 2);
            CHECK.due("P55 no TONES", x.tones(1), 0);
            CHECK.due("P4 none", x.desk(), 0);
            for (int what = 0; what < 6; what++) {
                CHECK.due("P4 nothing of any, " + what, x.count(what), 0);
            }
        }
    }

    private static void fault() {
        LipsAndSlides x = new LipsAndSlides();
        int[] others = {2, -1, 3, FAR, FAR_BELOW};
        String[] text = {null, ";", FIRST, "desk cents 0"};
        int[][] want = {{0, -1}, {1, 0}, {0, -1}, {2, 11}};
        for (int n = 0; n < text.length; n++) {
            if (text[n] != null) {
                x.end(0);
                Check.feedText(x, text[n]);
                x.desk();
            }
            CHECK.due("P5 what 0 of " + text[n], x.fault(0), want[n][0]);
            CHECK.due("P5 what 1 of " + text[n], x.fault(1), want[n][1]);
            for (int other : others) {
                CHECK.due("P5 another what of " + text[n], x.fault(other), -1);
            }
        }
    }

    /** Four brasses, nine players, three parts of sixteen tones. */
    private static LipsAndSlides full() {
        StringBuilder text = new StringBuilder(FIRST + BUGLE + HORN + SLIDE + BUGLE);
        for (int n = 0; n < 9; n++) {
            text.append(man(n % 4, n, n + 1, n));
        }
        text.append("part;").append("tone 34 for 1;".repeat(16));
        text.append("part;").append("tone 34 for 1;rest 1;".repeat(8));
        text.append("part;").append("rest 9;".repeat(15)).append("tone 60 for 9 slurred breath;");
        return Check.deskOf(text.toString());
    }

    private static void fullDesk() {
        LipsAndSlides x = full();
        int[] want = {20, 8, 4, 9, 3, 65, 0, 0};
        for (int what = 0; what < 8; what++) {
            CHECK.due("P54 of a full DESK " + what, x.count(what), want[what]);
        }
        CHECK.due("P55 full PART", x.tones(2), 16);
        CHECK.due("P51 its beats", x.beats(2), 144);
        CHECK.due("P52 its row", x.phrase(2, 0), 9);
        CHECK.due("P52 its first TONE", x.phrase(2, 1), 15);
        CHECK.due("P37 of nine PLAYERS", x.line(0), 3);
        CHECK.due("P38 of nine PLAYERS", x.best(0), 0);
        // of 16 beats the one of air 7 has to leave out two, those of 8 and 9 one each
        CHECK.due("P35 the last three", x.doubles(7 << 6, 0), 4);
        CHECK.due("P35 a tenth", x.doubles(1 << 9, 0), -2);
        CHECK.due("P35 the ninth", x.doubles(1 << 8, 0), -1);
        CHECK.due("P38 nobody plays 60", x.best(2), -1);
        CHECK.due("P39 so nothing is shared", x.shared(), -1);
        CHECK.due("P40 so nothing is given", x.given(2), -1);
    }

    private static void brassPlayerTone() {
        LipsAndSlides x = full();
        int[] kinds = {0, 1, 2, 0};
        for (int n = -1; n <= 9; n++) {
            CHECK.due("P6 BRASS " + n, x.brass(n, 0), n >= 0 && n < 4 ? kinds[n] : -2);
            CHECK.due("P7 PLAYER " + n, x.player(n, 1), n >= 0 && n < 9 ? n : -2);
            CHECK.due("P8 PART " + n, x.tone(n, 0, 2), n >= 0 && n < 3 ? 0 : -2);
        }
        int[] horn = {-2, 1, 10, 500, 61, 30, 95, 20, -2};
        int[] slide = {-2, 2, 3, 600, 37, 0, 0, 0, -2};
        int[] bugle = {-2, 0, 10, 500, 0, 0, 0, 0, -2};
        for (int what = -1; what <= 7; what++) {
            CHECK.due("P6 horn, what " + what, x.brass(1, what), horn[what + 1]);
            CHECK.due("P6 slide, what " + what, x.brass(2, what), slide[what + 1]);
            CHECK.due("P6 bugle, what " + what, x.brass(3, what), bugle[what + 1]);
        }
        int[] last = {-2, 0, 8, 9, 8, -2};
        for (int what = -1; what <= 4; what++) {
            CHECK.due("P7 the last PLAYER, what " + what, x.player(8, what), last[what + 1]);
        }
        int[] tone = {-2, 60, 9, 1, 1, 135, -2};
        int[] rest = {-2, -1, 9, 0, 0, 126, -2};
        for (int what = -1; what <= 5; what++) {
            CHECK.due("P8 the last TONE, what " + what, x.tone(2, 15, what), tone[what + 1]);
            CHECK.due("P8 a rest, what " + what, x.tone(2, 14, what), rest[what + 1]);
        }
        for (int i : new int[] {-1, 16, FAR, FAR_BELOW}) {
            CHECK.due("P8 TONE " + i, x.tone(0, i, 0), -2);
        }
        LipsAndSlides y = Check.deskOf(FIRST + "part;");
        CHECK.due("P8 an empty PART", y.tone(0, 0, 0), -2);
        CHECK.due("P6 no BRASSES", y.brass(0, 0), -2);
        CHECK.due("P7 no PLAYERS", y.player(0, 0), -2);
    }

    // ---- promises 9 to 16

    private static void offAndDrawn() {
        LipsAndSlides x = Check.deskOf(FIRST + BUGLE + HORN + SLIDE);
        int[] settings = {1, 8, 7};
        for (int brass = -1; brass <= 4; brass++) {
            for (int setting = -1; setting <= 8; setting++) {
                boolean is = brass >= 0 && brass < 3 && setting >= 0 && setting < settings[brass];
                CHECK.holds("P9 " + brass + " " + setting, x.flat(brass, setting) != -2 == is);
                CHECK.holds("P10 " + brass + " " + setting, x.off(brass, 30, 3, setting) != -100000 == is);
                CHECK.holds("P11 " + brass + " " + setting, x.drawnOut(brass, 30, 3, setting) != -2 == is);
            }
        }
        for (int pitch : new int[] {-1, 0, 60, 61, FAR, FAR_BELOW}) {
            boolean is = pitch >= 0 && pitch <= 60;
            CHECK.due("P10 PITCH " + pitch, x.off(0, pitch, 2, 0), is ? 2200 - 100 * pitch : -100000);
            CHECK.due("P11 PITCH " + pitch, x.drawnOut(0, pitch, 2, 0), is ? 0 : -2);
            CHECK.due("P12 PITCH " + pitch, x.ways(0, pitch), is ? 0 : -2);
            CHECK.due("P13 PITCH " + pitch, x.way(0, pitch, 0, 0), is ? -1 : -2);
        }
        for (int partial : new int[] {-1, 0, 1, 2, 8, 9, 12, 13, FAR, FAR_BELOW}) {
            boolean is = partial == 2 || partial == 8;
            CHECK.due("P10 partial " + partial, x.off(0, 0, partial, 0), is ? 1000 + (partial == 2 ? 1200 : 3600) : -100000);
            CHECK.due("P11 partial " + partial, x.drawnOut(1, 0, partial, 4), is ? 20 : -2);
        }
        CHECK.due("P10 all wrong", x.off(FAR, FAR, FAR, FAR), -100000);
        CHECK.due("P11 all wrong", x.drawnOut(FAR_BELOW, FAR_BELOW, FAR_BELOW, FAR_BELOW), -2);
        // the farthest OFF that may be is still no -100,000
        LipsAndSlides y = Check.deskOf("desk cents 1 highest 2;horn base 0 long 100 valves 400 400 400 draws 60;");
        CHECK.due("P10 the farthest", y.off(0, 60, 2, 7), 1200 - 2967 - 6000);
    }

    private static void waysAndWay() {
        LipsAndSlides x = Check.deskOf(FIRST + BUGLE + SLACK_SLIDE);
        CHECK.due("P12 one WAY", x.ways(0, 34), 1);
        CHECK.due("P12 none", x.ways(0, 35), 0);
        CHECK.due("P12 seven", x.ways(1, 34), 7);
        for (int k = -1; k <= 7; k++) {
            boolean is = k >= 0 && k < 7;
            CHECK.due("P13 partial of " + k, x.way(1, 34, k, 0), is ? 4 : -1);
            CHECK.due("P13 SETTING of " + k, x.way(1, 34, k, 1), is ? k : -1);
            CHECK.due("P13 no such what, of " + k, x.way(1, 34, k, 2), -2);
            CHECK.due("P13 what below 0, of " + k, x.way(1, 34, k, -1), -2);
            CHECK.due("P13 no such BRASS, of " + k, x.way(2, 34, k, 0), -2);
            CHECK.due("P13 no such PITCH, of " + k, x.way(1, 61, k, 0), -2);
        }
        for (int highest = 2; highest <= 12; highest++) {
            // by the highest partial alone, and by none if it is one lower
            int[] pitch = {22, 29, 34, 38, 41, 44, 46, 48, 50, 51, 53};
            LipsAndSlides z = Check.deskOf("desk cents 60 highest " + highest + ";" + BUGLE);
            CHECK.due("P12 by the highest partial", z.ways(0, pitch[highest - 2]), 1);
            CHECK.due("P13 the highest partial", z.way(0, pitch[highest - 2], 0, 0), highest);
            CHECK.due("P12 above the highest partial", highest < 12 ? z.ways(0, pitch[highest - 1]) : 0, 0);
        }
        CHECK.due("P13 far", x.way(1, 34, FAR, 0), -1);
        CHECK.due("P13 far below", x.way(1, 34, FAR_BELOW, 0), -1);
        // as many WAYS as may be: all partials of all SETTINGS can't be of one PITCH, but those of all valves can
        LipsAndSlides y = Check.deskOf("desk cents 60 highest 12;horn base 10 long 500 valves 0 0 0 draws 60;");
        CHECK.due("P12 drawn ones too", y.ways(0, 34), 8);
    }

    private static void range() {
        // the least PITCH is 0 and the greatest 60
        LipsAndSlides x = Check.deskOf("desk cents 60 highest 12;horn base 0 long 100 valves 106 50 20 draws 60;"
                + "bugle base 40 long 100;bugle base 36 long 100;");
        CHECK.due("P14 least 0", x.range(0, 0), 0);
        CHECK.due("P14 none beyond 43", x.range(0, 1), 43);
        CHECK.due("P14 least of base 40", x.range(1, 0), 52);
        CHECK.due("P14 greatest of base 40", x.range(1, 1), 59);
        CHECK.due("P14 between 52 and 59", x.range(1, 2), 6);
        CHECK.due("P14 greatest 60", x.range(2, 1), 60);
        CHECK.due("P14 between 48, 55 and 60", x.range(2, 2), 10);
        for (int what : new int[] {-1, 3, FAR, FAR_BELOW}) {
            CHECK.due("P14 what " + what, x.range(0, what), -2);
        }
        for (int brass : new int[] {-1, 3, 4, FAR, FAR_BELOW}) {
            CHECK.due("P14 BRASS " + brass, x.range(brass, 0), -2);
        }
        // 0 has a WAY (1199 flat), and -1 would have one (1298 flat) if it were a PITCH; as 61 by 2 of 49 would
        LipsAndSlides z = Check.deskOf("desk cents 60 highest 2;horn base 0 long 100 valves 106 0 120 draws 0;");
        CHECK.due("P14 least of a deep one", z.range(0, 0), 0);
        CHECK.due("P14 greatest of a deep one", z.range(0, 1), 12);
        CHECK.due("P14 between 0 and 12 all", z.range(0, 2), 11);
        // every base up to 40 has partial 2 within 0 .. 60, off 0: so a BRASS always has a PITCH
        for (int base = 0; base <= 40; base++) {
            LipsAndSlides y = Check.deskOf("desk cents 1 highest 2;bugle base " + base + " long 999;");
            CHECK.due("P14 one PITCH, least", y.range(0, 0), base + 12);
            CHECK.due("P14 one PITCH, greatest", y.range(0, 1), base + 12);
            CHECK.due("P14 nothing between", y.range(0, 2), 0);
        }
    }

    private static void common() {
        LipsAndSlides x = Check.deskOf("desk cents 1 highest 2;bugle base 10 long 500;bugle base 10 long 999;bugle base 11 long 500;");
        CHECK.due("P15 alike", x.common(0, 1), 1);
        CHECK.due("P15 none in common", x.common(0, 2), 0);
        CHECK.due("P15 one twice", x.common(2, 2), -2);
        for (int other : new int[] {-1, 3, 4, FAR, FAR_BELOW}) {
            CHECK.due("P15 second " + other, x.common(0, other), -2);
            CHECK.due("P15 first " + other, x.common(other, 0), -2);
            CHECK.due("P15 both " + other, x.common(other, other), -2);
        }
        edgesInCommon();
        // all that one has, if the other is the same
        LipsAndSlides y = Check.deskOf("desk cents 60 highest 12;" + "slide base 10 long 300 step 19;".repeat(2));
        int have = 0;
        for (int pitch = 0; pitch <= 60; pitch++) {
            have += y.ways(0, pitch) > 0 ? 1 : 0;
        }
        CHECK.due("P15 all that each has", y.common(0, 1), have);
    }

    private static void edgesInCommon() {
        // 0 and 12 alone, -1 is no PITCH; then 60 alone, 61 (partial 2 of 49) is none
        String deep = "horn base 0 long 100 valves 106 0 120 draws 0;";
        LipsAndSlides x = Check.deskOf("desk cents 60 highest 2;" + deep + deep + "bugle base 0 long 500;");
        CHECK.due("P15 0 and 12", x.common(0, 1), 2);
        CHECK.due("P15 12", x.common(0, 2), 1);
        LipsAndSlides y = Check.deskOf("desk cents 1 highest 4;bugle base 36 long 500;bugle base 36 long 500;");
        CHECK.due("P15 48 and 60", y.common(0, 1), 2);
        LipsAndSlides z = Check.deskOf("desk cents 20 highest 5;bugle base 33 long 500;bugle base 33 long 500;");
        CHECK.due("P15 45, 52, 57, but not 61", z.common(0, 1), 3);
    }

    private static void move() {
        LipsAndSlides x = Check.deskOf(FIRST + BUGLE + HORN + SLIDE);
        int[] last = {0, 7, 6};
        for (int brass = 0; brass < 3; brass++) {
            CHECK.holds("P16 last of " + brass, x.move(brass, last[brass], last[brass]) == 0);
            CHECK.due("P16 behind the last of " + brass, x.move(brass, 0, last[brass] + 1), -2);
            CHECK.due("P16 first behind the last of " + brass, x.move(brass, last[brass] + 1, 0), -2);
            CHECK.due("P16 below 0 of " + brass, x.move(brass, 0, -1), -2);
            CHECK.due("P16 first below 0 of " + brass, x.move(brass, -1, 0), -2);
            CHECK.due("P16 both of " + brass, x.move(brass, -1, -1), -2);
        }
        CHECK.due("P16 BRASS 3", x.move(3, 0, 0), -2);
        CHECK.due("P16 BRASS -1", x.move(-1, 0, 0), -2);
    }

    // ---- promises 17 to 28

    private static void pairs() {
        // the ninth PLAYER and the third PART are the last
        LipsAndSlides x = full();
        for (int n = -1; n <= 9; n++) {
            boolean man = n >= 0 && n < 9;
            boolean part = n >= 0 && n < 3;
            int[] men = {x.plays(n, 0), x.cost(n, 0), x.sour(n, 0), x.chosen(n, 0, 0, 0), x.slurs(n, 0, 0), x.stuck(n, 0), x.quick(n, 0),
                x.cents(n, 0), x.many(n, 0), x.moved(n, 0), x.put(n, 0, 0), x.shift(n, 0), x.breaths(n, 0), x.marks(n, 0),
                x.choked(n, 0), x.load(n, 0, 0), x.tired(n, 0), x.spared(n, 0), x.cracks(0, n, 0), x.cracked(0, n, 0),
                x.clean(0, 1, n, 0)};
            int[] parts = {x.plays(0, n), x.cost(0, n), x.sour(0, n), x.chosen(0, n, 0, 0), x.slurs(0, n, 0), x.stuck(0, n),
                x.quick(0, n), x.cents(0, n), x.many(0, n), x.moved(0, n), x.put(0, n, 0), x.shift(0, n), x.breaths(0, n),
                x.marks(0, n), x.choked(0, n), x.load(0, n, 0), x.tired(0, n), x.spared(0, n), x.cracks(0, 0, n),
                x.cracked(0, 0, n), x.clean(0, 1, 0, n), x.doubles(1, n), x.leaves(1, n, 0), x.line(n), x.best(n), x.given(n),
                x.beats(n), x.phrase(n, 0), x.pitches(n), x.tones(n)};
            for (int c = 0; c < men.length; c++) {
                CHECK.holds("P17 .. P46 PLAYER " + n + ", call " + c, men[c] != -2 == man);
            }
            for (int c = 0; c < parts.length; c++) {
                CHECK.holds("P17 .. P55 PART " + n + ", call " + c, parts[c] != -2 == part);
            }
        }
        CHECK.due("P17 neither", x.plays(FAR, FAR_BELOW), -2);
    }

    private static void playsAndNone() {
        LipsAndSlides x = Check.deskOf(FIRST + BUGLE + man(0, 0, 30, 999) + "part;tone 23 for 1;part;part;rest 1;");
        int[][] want = {{0, -1, -1}, {1, 0, 0}, {1, 0, 0}};
        for (int part = 0; part < 3; part++) {
            CHECK.due("P17 PART " + part, x.plays(0, part), want[part][0]);
            CHECK.due("P18 PART " + part, x.cost(0, part), want[part][1]);
            CHECK.due("P19 PART " + part, x.sour(0, part), want[part][2]);
        }
        // 16 TONES off by 14 each, and COST is counted apart from it
        LipsAndSlides y = one(BUGLE, 0, "tone 38 for 1;".repeat(16));
        CHECK.due("P19 each without a sign", y.sour(0, 0), 224);
        CHECK.due("P18 none of it", y.cost(0, 0), 0);
        LipsAndSlides z = one(BUGLE, 0, "tone 38 for 1;tone 29 for 1;");
        CHECK.due("P19 -14 and 2 are 16", z.sour(0, 0), 16);
        // the most that may be: 16 TONES off by 60, COST of 15 times 6
        LipsAndSlides v = Check.deskOf("desk cents 60 highest 2;slide base 10 long 400 step 30;" + man(0, 9, 30, 999) + "part;"
                + "tone 22 for 1;tone 17 for 1;".repeat(8));
        CHECK.due("P18 a long way to and fro", v.cost(0, 0), 15 * v.move(0, v.chosen(0, 0, 0, 1), v.chosen(0, 0, 1, 1)));
        CHECK.holds("P18 it is long", v.cost(0, 0) >= 15 * 4);
    }

    private static void chosen() {
        LipsAndSlides x = Check.deskOf(FIRST + HORN + man(0, 9, 30, 999) + "part;rest 1;tone 31 for 1;part;tone 1 for 1;");
        int[] want = {4, 4, 1};
        for (int what = -1; what <= 3; what++) {
            boolean is = what >= 0 && what <= 2;
            CHECK.due("P20 what " + what, x.chosen(0, 0, 1, what), is ? want[what] : -2);
            CHECK.due("P20 a rest, what " + what, x.chosen(0, 0, 0, what), is ? -1 : -2);
            CHECK.due("P20 no TONE 2, what " + what, x.chosen(0, 0, 2, what), is ? -1 : -2);
            CHECK.due("P20 no TONE -1, what " + what, x.chosen(0, 0, -1, what), is ? -1 : -2);
            CHECK.due("P20 far TONE, what " + what, x.chosen(0, 0, FAR, what), is ? -1 : -2);
            CHECK.due("P20 no PLAY, what " + what, x.chosen(0, 1, 0, what), is ? -1 : -2);
            CHECK.due("P20 no PART, what " + what, x.chosen(0, 2, 0, what), -2);
            CHECK.due("P20 no PLAYER, what " + what, x.chosen(1, 0, 0, what), -2);
        }
    }

    private static void slurs() {
        LipsAndSlides x = Check.deskOf(FIRST + BUGLE + man(0, 9, 30, 999) + "part;tone 1 for 1;part;part;tone 34 for 1 slurred;");
        for (int what = -1; what <= 3; what++) {
            boolean is = what >= 0 && what <= 2;
            CHECK.due("P21 no PLAY, what " + what, x.slurs(0, 0, what), is ? -1 : -2);
            CHECK.due("P21 nothing there, what " + what, x.slurs(0, 1, what), is ? 0 : -2);
            CHECK.due("P21 one TONE, what " + what, x.slurs(0, 2, what), is ? 0 : -2);
            CHECK.due("P21 no PART, what " + what, x.slurs(0, 3, what), -2);
        }
        // by lips alone: the SETTING stays, the partial does not; 15 slurs of 16 TONES
        LipsAndSlides y = one(BUGLE, 0, "tone 34 for 1 slurred;tone 38 for 1 slurred;".repeat(8));
        CHECK.due("P21 all by lips", y.slurs(0, 0, 1), 15);
        CHECK.due("P21 none moves", y.slurs(0, 0, 2), 0);
        LipsAndSlides z = one(HORN, 9, "tone 34 for 1 slurred;tone 33 for 1 slurred;".repeat(8));
        CHECK.due("P21 all are SMEARS", z.slurs(0, 0, 0), 15);
        CHECK.due("P21 none by lips", z.slurs(0, 0, 1), 0);
        CHECK.due("P21 all move", z.slurs(0, 0, 2), 15);
    }

    private static void stuck() {
        CHECK.due("P22 at the first", one(BUGLE, 0, "tone 1 for 1;tone 1 for 1;").stuck(0, 0), 0);
        CHECK.due("P22 at the last", one(BUGLE, 0, "tone 34 for 1;".repeat(15) + "tone 1 for 1;").stuck(0, 0), 15);
        CHECK.due("P22 rests are counted", one(BUGLE, 0, "rest 1;".repeat(15) + "tone 1 for 1;").stuck(0, 0), 15);
        CHECK.due("P22 one can play all", one(BUGLE, 0, "tone 34 for 1;".repeat(16)).stuck(0, 0), -1);
        CHECK.due("P22 nothing there", one(BUGLE, 0, "").stuck(0, 0), -1);
        // 29 has a WAY, but one comes to it by none of 22's
        CHECK.due("P22 though it has a WAY", one(BUGLE, 0, "tone 22 for 1 slurred;tone 34 for 1;").stuck(0, 0), 1);
    }

    private static void quick() {
        // 22 is in place 0 alone, 16 in place 6 (614 flat) alone
        int[] want = {6, 3, 2, 2, 2, 1, 1, 1, 1};
        String slide = "desk cents 20 highest 2;slide base 10 long 500 step 36;" + man(0, 0, 30, 999);
        for (int beats = 1; beats <= 9; beats++) {
            LipsAndSlides x = Check.deskOf(slide + "part;tone 22 for " + beats + ";tone 16 for 9;");
            CHECK.due("P23 within " + beats, x.quick(0, 0), want[beats - 1]);
            x.train(0, 1, want[beats - 1]);
            CHECK.due("P17 so quick he can", x.plays(0, 0), 1);
            x.train(0, 1, want[beats - 1] - 1);
            CHECK.due("P17 less quick he can't", x.plays(0, 0), 0);
        }
        CHECK.due("P23 0 does", one(BUGLE, 9, "tone 22 for 1;tone 46 for 1;").quick(0, 0), 0);
        CHECK.due("P23 with none: no WAY", one(BUGLE, 9, "tone 23 for 1;").quick(0, 0), -1);
        CHECK.due("P23 with none: a slur", one(BUGLE, 9, "tone 22 for 1 slurred;tone 46 for 1;").quick(0, 0), -1);
        CHECK.due("P23 nothing there", one(BUGLE, 9, "").quick(0, 0), 0);
    }

    private static void cents() {
        // 51 by partial 11 is +51, 52 is -49; 44 by 7 is -31
        String begin = "desk cents 1 highest 12;" + BUGLE + man(0, 0, 30, 999) + "part;";
        int[][] want = {{34, 1}, {29, 2}, {38, 14}, {44, 31}, {52, 49}, {51, 51}, {35, -1}};
        for (int[] w : want) {
            CHECK.due("P24 " + w[0], Check.deskOf(begin + "tone " + w[0] + " for 1;").cents(0, 0), w[1]);
        }
        CHECK.due("P24 the greatest of all", Check.deskOf(begin + "tone 29 for 1;tone 51 for 1;tone 34 for 1;").cents(0, 0), 51);
        CHECK.due("P24 nothing there", Check.deskOf(begin).cents(0, 0), 1);
        // the DESK's own cents do not count, and stay
        LipsAndSlides x = Check.deskOf(begin.replace("cents 1 ", "cents 60 ") + "tone 29 for 1;");
        CHECK.due("P24 fewer than the DESK's", x.cents(0, 0), 2);
        CHECK.due("P24 these stay", x.count(0), 60);
        sixtyCents();
    }

    private static void sixtyCents() {
        // a valve of 23 is 40 flat on long 982 and 39 on long 999: for 21, which wants 100, 60 and 61 are left
        String[] horn = {"horn base 10 long 982 valves 23 0 0 draws 0;", "horn base 10 long 999 valves 23 0 0 draws 0;"};
        int[] flat = {40, 39};
        int[] want = {60, -1};
        for (int n = 0; n < 2; n++) {
            LipsAndSlides x = Check.deskOf("desk cents 1 highest 2;" + horn[n] + man(0, 0, 30, 999) + "part;tone 21 for 1;");
            CHECK.due("P24 so flat", x.flat(0, 1), flat[n]);
            CHECK.due("P24 60 do, 61 would be too many", x.cents(0, 0), want[n]);
        }
    }

    private static void many() {
        CHECK.due("P25 none", one(BUGLE, 0, "tone 23 for 1;").many(0, 0), 0);
        CHECK.due("P25 one", one(BUGLE, 0, "tone 34 for 1;".repeat(16)).many(0, 0), 1);
        CHECK.due("P25 nothing there: one", one(BUGLE, 0, "").many(0, 0), 1);
        // 34 has 5 WAYS, 38 has 4, 44 has 2: 5 ^ 9 * 2 ^ 9 is 1,000,000,000
        String begin = "desk cents 45 highest 8;slide base 10 long 999 step 6;" + man(0, 9, 30, 999) + "part;";
        String nine = "tone 34 for 1;".repeat(9);
        CHECK.due("P25 1,000,000,000", Check.deskOf(begin + nine + "tone 38 for 1;".repeat(2) + "tone 44 for 1;".repeat(5)).many(0, 0),
                1000000000);
        CHECK.due("P25 the other way round",
                Check.deskOf(begin + "tone 44 for 1;".repeat(5) + nine + "tone 38 for 1;".repeat(2)).many(0, 0), 1000000000);
        justAbove();
        // 7 ^ 10 is 282,475,249, 7 ^ 11 is above
        String seven = "desk cents 20 highest 4;" + SLACK_SLIDE + man(0, 9, 30, 999) + "part;";
        CHECK.due("P25 7 ^ 10", Check.deskOf(seven + "tone 34 for 1;".repeat(10)).many(0, 0), 282475249);
        CHECK.due("P25 7 ^ 11", Check.deskOf(seven + "tone 34 for 1;".repeat(11)).many(0, 0), -3);
        CHECK.due("P25 7 ^ 16", Check.deskOf(seven + "tone 34 for 1;".repeat(16)).many(0, 0), -3);
        // ever so many, but none to the end: 0, not -3
        CHECK.due("P25 none in the end", Check.deskOf(seven + "tone 34 for 1;".repeat(15) + "tone 23 for 1;").many(0, 0), 0);
        CHECK.due("P25 none at first", Check.deskOf(seven + "tone 23 for 1;" + "tone 34 for 1;".repeat(15)).many(0, 0), 0);
    }

    private static void justAbove() {
        // of seven places that are all WAYS, by quick 1 and so many beats from TONE to TONE: found by search
        int[] beats = {2, 2, 4, 3, 1, 5, 4, 4, 5, 5, 6, 1};
        StringBuilder text = new StringBuilder(FIRST + SLACK_SLIDE + man(0, 1, 30, 999) + "part;");
        long[] by = {1, 1, 1, 1, 1, 1, 1};
        for (int n = 0; n < beats.length; n++) {
            text.append("tone 34 for ").append(beats[n]).append(';');
            long[] next = new long[7];
            for (int a = 0; a < 7; a++) {
                for (int b = 0; b < 7; b++) {
                    next[b] += n + 1 < beats.length && Math.abs(a - b) <= beats[n] ? by[a] : 0;
                }
            }
            by = n + 1 < beats.length ? next : by;
        }
        CHECK.due("P25 by hand", java.util.Arrays.stream(by).sum(), 1000000001L);
        CHECK.due("P25 1,000,000,001", Check.deskOf(text.toString()).many(0, 0), -3);
        CHECK.due("P25 one TONE less", Check.deskOf(text.toString().replace("tone 34 for 6;", "")).many(0, 0) > 0 ? 1 : 0, 1);
        // behind a first TONE of one WAY (33 in place 6): 5 ^ 9 * 2 ^ 9 again, and twice that
        String one = "desk cents 45 highest 8;slide base 10 long 999 step 6;" + man(0, 9, 30, 999) + "part;tone 33 for 1;"
                + "tone 34 for 1;".repeat(9) + "tone 38 for 1;".repeat(4);
        CHECK.due("P25 1,000,000,000 behind one WAY", Check.deskOf(one + "tone 44 for 1;").many(0, 0), 1000000000);
        CHECK.due("P25 2,000,000,000 behind one WAY", Check.deskOf(one + "tone 38 for 1;").many(0, 0), -3);
        CHECK.due("P25 and a last of one WAY", Check.deskOf(one + "tone 44 for 1;tone 33 for 1;").many(0, 0), 1000000000);
    }

    private static void movedAndPut() {
        LipsAndSlides x = Check.deskOf(FIRST + BUGLE + man(0, 0, 30, 999) + "part;rest 1;tone 10 for 1;part;tone 9 for 1;part;");
        CHECK.due("P26 one", x.moved(0, 0), 1);
        CHECK.due("P26 none do", x.moved(0, 1), -1);
        CHECK.due("P26 nothing there", x.moved(0, 2), 0);
        int[] want = {-1, -1, 12, -1, -1};
        for (int i = -1; i <= 3; i++) {
            CHECK.due("P27 TONE " + i, x.put(0, 0, i), want[i + 1]);
            CHECK.due("P27 none do, TONE " + i, x.put(0, 1, i), -1);
            CHECK.due("P27 nothing there, TONE " + i, x.put(0, 2, i), -1);
            CHECK.due("P27 no PART, TONE " + i, x.put(0, 3, i), -2);
            CHECK.due("P27 no PLAYER, TONE " + i, x.put(1, 0, i), -2);
        }
        // all of 16: each by an octave, one way; two octaves are too many
        LipsAndSlides y = one(BUGLE, 0, "tone 58 for 1;tone 10 for 1;".repeat(8));
        CHECK.due("P26 all", y.moved(0, 0), 16);
        CHECK.due("P27 the last but one", y.put(0, 0, 14), -12);
        CHECK.due("P27 the last", y.put(0, 0, 15), 12);
        // hands that move are no TONES that are moved
        LipsAndSlides z = one(HORN, 9, "tone 34 for 1;tone 33 for 1;tone 31 for 1;");
        CHECK.due("P26 hands move, TONES do not", z.moved(0, 0), 0);
        CHECK.due("P27 so they stay", z.put(0, 0, 2), 0);
        CHECK.due("P26 two octaves", one("bugle base 34 long 500;", 0, "tone 22 for 1;").moved(0, 0), -1);
    }

    private static void shift() {
        // only 22 has a WAY: -12 .. 12 reach it from 10 .. 34
        String begin = "desk cents 1 highest 2;" + BUGLE + man(0, 0, 30, 999) + "part;";
        for (int pitch = 8; pitch <= 36; pitch++) {
            int by = 22 - pitch;
            CHECK.due("P28 of " + pitch, Check.deskOf(begin + "tone " + pitch + " for 1;").shift(0, 0), by >= -12 && by <= 12 ? by : -100);
        }
        // 34 and 38: 36 is two from both, of two up
        CHECK.due("P28 of two up", one(BUGLE, 0, "tone 36 for 1;").shift(0, 0), 2);
        CHECK.due("P28 0 ahead of all", one(BUGLE, 0, "tone 34 for 1;").shift(0, 0), 0);
        // all TONES within 0 .. 60 still: 60 and 48 could go up together if there were a 61
        LipsAndSlides x = one("bugle base 36 long 500;", 0, "tone 59 for 1;tone 47 for 1;");
        CHECK.due("P28 up to 60", x.shift(0, 0), 1);
        LipsAndSlides y = one("bugle base 37 long 500;", 0, "tone 60 for 1;tone 48 for 1;");
        CHECK.due("P28 not to 61", y.shift(0, 0), -100);
        LipsAndSlides z = Check.deskOf("desk cents 60 highest 2;horn base 0 long 100 valves 106 0 0 draws 0;" + man(0, 9, 30, 999)
                + "part;tone 1 for 1;tone 13 for 1;part;tone 0 for 1;tone 13 for 1;");
        CHECK.due("P28 down to 0", z.shift(0, 0), -1);
        CHECK.due("P28 not below 0", z.shift(0, 1), -100);
        CHECK.due("P28 nothing there", one(BUGLE, 0, "").shift(0, 0), 0);
        CHECK.due("P28 no PART", y.shift(0, 1), -2);
    }

    // ---- promises 29 to 37

    private static LipsAndSlides breather(int air, String part) {
        return Check.deskOf(FIRST + BUGLE + man(0, 0, air, 999) + "part;" + part);
    }

    private static void breathsAndMarks() {
        CHECK.due("P29 nothing there", breather(1, "").breaths(0, 0), 0);
        CHECK.due("P30 nothing there", breather(1, "").marks(0, 0), 0);
        CHECK.due("P29 rests alone", breather(1, "rest 9;").breaths(0, 0), 0);
        CHECK.due("P29 his air does not do", breather(1, "tone 34 for 2;").breaths(0, 0), -1);
        CHECK.due("P30 his air does not do", breather(1, "tone 34 for 2;").marks(0, 0), -1);
        // a breath behind all but the last: bits 0 .. 14; a mark behind the last is never needed
        String all = "tone 34 for 1 breath;".repeat(16);
        CHECK.due("P29 as many as may be", breather(1, all).breaths(0, 0), 15);
        CHECK.due("P30 as many as may be", breather(1, all).marks(0, 0), 32767);
        CHECK.due("P29 one of 15", breather(15, all).breaths(0, 0), 1);
        CHECK.due("P30 the least of them", breather(15, all).marks(0, 0), 1);
        CHECK.due("P29 none of 16", breather(16, all).breaths(0, 0), 0);
        CHECK.due("P30 of 8 and 8 one alone", breather(8, all).marks(0, 0), 1 << 7);
        // the fewest ahead of the least number: behind 1 alone (2), not behind 0 and ..
        CHECK.due("P30 fewest first", breather(4, "tone 34 for 2 breath;tone 34 for 2 breath;tone 34 for 2 breath;tone 34 for 2;")
                .marks(0, 0), 2);
        // as a whole number: 0 and 2 (5) ahead of 1 and 2 (6), of 0 and 3 (9)
        CHECK.due("P30 as a whole number", breather(4, "tone 34 for 2 breath;".repeat(4) + "tone 34 for 2;").marks(0, 0), 5);
        // play or not: 23 has no WAY
        CHECK.due("P29 without a PLAY", breather(2, "tone 23 for 2 breath;tone 23 for 1;").breaths(0, 0), 1);
    }

    private static void choked() {
        CHECK.due("P31 nothing there", breather(1, "").choked(0, 0), -1);
        CHECK.due("P31 at the first", breather(8, "tone 34 for 9;").choked(0, 0), 0);
        CHECK.due("P31 just not", breather(9, "tone 34 for 9;").choked(0, 0), -1);
        CHECK.due("P31 at the last", breather(15, "tone 34 for 1;".repeat(16)).choked(0, 0), 15);
        CHECK.due("P31 though he breathes at each mark", breather(8, "tone 34 for 8 breath;tone 34 for 8 breath;tone 34 for 9;")
                .choked(0, 0), 2);
        CHECK.due("P31 a rest", breather(8, "tone 34 for 8;rest 1;tone 34 for 8;rest 1;").choked(0, 0), -1);
    }

    private static void loads() {
        LipsAndSlides x = Check.deskOf(FIRST + BUGLE + man(0, 0, 30, 999) + "part;tone 46 for 9;rest 9;part;tone 23 for 1;part;");
        int[] want = {-2, 45, 27, -2};
        int[] none = {-2, -1, -2, -2};
        for (int i = -1; i <= 2; i++) {
            CHECK.due("P32 TONE " + i, x.load(0, 0, i), want[i + 1]);
            CHECK.due("P32 no PLAY, TONE " + i, x.load(0, 1, i), none[i + 1]);
            CHECK.due("P32 nothing there, TONE " + i, x.load(0, 2, i), -2);
            CHECK.due("P32 no PLAYER, TONE " + i, x.load(1, 0, i), -2);
        }
        CHECK.due("P32 far", x.load(0, 0, FAR), -2);
        CHECK.due("P32 far below", x.load(0, 0, FAR_BELOW), -2);
        // 16 TONES of 9 beats by partial 12: 16 * 9 * 9 are above the greatest lips
        LipsAndSlides y = Check.deskOf("desk cents 20 highest 12;" + BUGLE + man(0, 0, 30, 999) + "part;"
                + "tone 53 for 9;".repeat(16));
        CHECK.due("P32 the most", y.load(0, 0, 15), 1296);
        // 12 TONES have 972, 13 have 1053
        CHECK.due("P33 above 999", y.tired(0, 0), 12);
        CHECK.due("P34 from that one on", y.spared(0, 0), 4);
    }

    private static void tiredAndSpared() {
        // LOAD is 1, 2, .. 16
        String part = "part;" + "tone 22 for 1;".repeat(16) + "part;tone 23 for 1;part;";
        for (int lips = 0; lips <= 17; lips++) {
            LipsAndSlides x = Check.deskOf(FIRST + BUGLE + man(0, 0, 30, lips) + part);
            CHECK.due("P33 by lips " + lips, x.tired(0, 0), lips < 16 ? lips : -1);
            CHECK.due("P34 by lips " + lips, x.spared(0, 0), lips < 16 ? 16 - lips : 0);
            CHECK.due("P33 no PLAY", x.tired(0, 1), -1);
            CHECK.due("P34 no PLAY", x.spared(0, 1), -1);
            CHECK.due("P33 nothing there", x.tired(0, 2), -1);
            CHECK.due("P34 nothing there", x.spared(0, 2), 0);
        }
        // rests aside, and the first time counts: 3, 1, 4
        LipsAndSlides y = Check.deskOf(FIRST + BUGLE + man(0, 0, 30, 2) + "part;tone 22 for 3;rest 1;tone 22 for 3;rest 1;");
        CHECK.due("P33 the first", y.tired(0, 0), 0);
        CHECK.due("P34 rests aside", y.spared(0, 0), 2);
        y.train(0, 3, 3);
        CHECK.due("P33 the second", y.tired(0, 0), 2);
        CHECK.due("P34 one alone", y.spared(0, 0), 1);
    }

    private static void doubles() {
        StringBuilder text = new StringBuilder(FIRST + BUGLE);
        for (int n = 0; n < 9; n++) {
            text.append(man(0, 0, 9, 0));
        }
        LipsAndSlides x = Check.deskOf(text + "part;tone 34 for 9;part;");
        for (int set = -2; set < 520; set++) {
            int size = Integer.bitCount(set);
            boolean is = set > 0 && set < 512 && size <= 3;
            CHECK.due("P35 set " + set, x.doubles(set, 0), is ? 0 : -2);
            CHECK.due("P36 set " + set, x.leaves(set, 0, 0), is ? -1 : -2);
            CHECK.due("P35 nothing there, set " + set, x.doubles(set, 1), is ? 0 : -2);
            CHECK.due("P35 no PART, set " + set, x.doubles(set, 2), -2);
            CHECK.due("P36 no PART, set " + set, x.leaves(set, -1, 0), -2);
        }
        for (int bit = 9; bit < 32; bit++) {
            CHECK.due("P35 no PLAYER " + bit, x.doubles(1 << bit, 0), -2);
            CHECK.due("P35 one and no PLAYER " + bit, x.doubles(1 << bit | 1, 0), -2);
            CHECK.due("P36 one and no PLAYER " + bit, x.leaves(1 << bit | 1, 0, 0), -2);
        }
        // the numbers of PLAYERS, not their order in the set
        x.train(5, 2, 8);
        CHECK.due("P35 one of air 8", x.doubles(1 << 5 | 1 << 8, 0), 1);
        CHECK.due("P36 it is 5", x.leaves(1 << 5 | 1 << 8, 0, 0), 5);
        x.train(8, 2, 8);
        CHECK.due("P35 both of air 8", x.doubles(1 << 5 | 1 << 8, 0), -1);
        CHECK.due("P35 and a third one", x.doubles(1 << 5 | 1 << 8 | 1, 0), -1);
    }

    private static void leaves() {
        LipsAndSlides x = Check.deskOf(FIRST + BUGLE + man(0, 0, 2, 0) + man(0, 0, 9, 0)
                + "part;tone 34 for 2;rest 1;tone 34 for 3;part;tone 34 for 9;tone 34 for 9;part;");
        int[] want = {-1, -1, -1, 0, -1, -1};
        for (int i = -1; i <= 4; i++) {
            CHECK.due("P36 TONE " + i, x.leaves(3, 0, i), want[i + 1]);
            CHECK.due("P36 no order, TONE " + i, x.leaves(1, 1, i), -1);
            CHECK.due("P36 nothing there, TONE " + i, x.leaves(3, 2, i), -1);
            CHECK.due("P36 no set, TONE " + i, x.leaves(4, 0, i), -2);
            CHECK.due("P36 no PART, TONE " + i, x.leaves(3, 3, i), -2);
        }
        CHECK.due("P36 far", x.leaves(3, 0, FAR), -1);
        CHECK.due("P36 far below", x.leaves(3, 0, FAR_BELOW), -1);
    }

    private static void line() {
        String nine = "part;tone 34 for 9;";
        CHECK.due("P37 no PLAYERS", Check.deskOf(FIRST + BUGLE + nine).line(0), -1);
        CHECK.due("P37 no PLAYERS, nothing there", Check.deskOf(FIRST + BUGLE + "part;").line(0), -1);
        CHECK.due("P37 the least set", Check.deskOf(FIRST + BUGLE + man(0, 0, 9, 0).repeat(9) + nine).line(0), 1);
        CHECK.due("P37 the ninth alone", Check.deskOf(FIRST + BUGLE + man(0, 0, 8, 0).repeat(8) + man(0, 0, 9, 0) + nine).line(0), 256);
        CHECK.due("P37 nobody", Check.deskOf(FIRST + BUGLE + man(0, 0, 8, 0).repeat(9) + nine).line(0), -1);
        // two of air 4 play 4 and 4; fewer ahead of less: 8 alone (8) ahead of 0 and 1 (3)
        String two = "part;tone 34 for 4;tone 34 for 4;";
        String four = man(0, 0, 4, 0);
        CHECK.due("P37 one ahead of two", Check.deskOf(FIRST + BUGLE + four.repeat(3) + man(0, 0, 8, 0) + two).line(0), 8);
        CHECK.due("P37 the least of two", Check.deskOf(FIRST + BUGLE + man(0, 0, 1, 0) + four.repeat(3) + two).line(0), 6);
        threeInALine();
        LipsAndSlides x = full();
        CHECK.due("P37 PART 3", x.line(3), -2);
        CHECK.due("P37 PART -1", x.line(-1), -2);
    }

    private static void threeInALine() {
        // of air 3 nobody plays two of 2 beats in a row: two leave out all by turns, of three none could
        LipsAndSlides x = Check.deskOf(FIRST + BUGLE + man(0, 0, 3, 0).repeat(4) + "part;" + "tone 34 for 2;".repeat(6));
        CHECK.due("P35 two", x.doubles(3, 0), 6);
        CHECK.due("P35 three", x.doubles(7, 0), -1);
        CHECK.due("P37 two do", x.line(0), 3);
    }

    // ---- promises 38 to 46

    private static void best() {
        LipsAndSlides x = Check.deskOf(FIRST + BUGLE + "part;tone 34 for 1;");
        CHECK.due("P38 no PLAYERS", x.best(0), -1);
        LipsAndSlides y = Check.deskOf(FIRST + BUGLE + man(0, 0, 1, 0).repeat(9) + "part;tone 34 for 1;part;part;tone 23 for 1;");
        CHECK.due("P38 the least number", y.best(0), 0);
        CHECK.due("P38 nothing there", y.best(1), 0);
        CHECK.due("P38 nobody can", y.best(2), -1);
        CHECK.due("P38 PART 3", y.best(3), -2);
        CHECK.due("P38 PART -1", y.best(-1), -2);
        // the last of nine alone
        LipsAndSlides z = Check.deskOf(FIRST + BUGLE + "bugle base 11 long 500;" + man(0, 0, 1, 0).repeat(8) + man(1, 0, 1, 0)
                + "part;tone 23 for 1;");
        CHECK.due("P38 the ninth", z.best(0), 8);
        // COST ahead of sour and number: 34 in place 5 (off -2), 38 in place 4 (off 4); the bugle is off by 14
        LipsAndSlides v = Check.deskOf("desk cents 15 highest 8;slide base 11 long 492 step 6;" + BUGLE + man(0, 9, 1, 0)
                + man(1, 0, 1, 0) + "part;tone 34 for 1;tone 38 for 1;");
        CHECK.due("P18 COST of the slide", v.cost(0, 0), 1);
        CHECK.due("P19 its cents", v.sour(0, 0), 6);
        CHECK.due("P18 COST of the bugle", v.cost(1, 0), 0);
        CHECK.due("P19 its cents", v.sour(1, 0), 14);
        CHECK.due("P38 least COST", v.best(0), 1);
        // sour ahead of number: 29 by partial 3 is off 2, by partial 2 of base 17 off 0
        LipsAndSlides w = Check.deskOf(FIRST + BUGLE + "bugle base 17 long 500;" + man(0, 0, 1, 0) + man(1, 0, 1, 0).repeat(2)
                + "part;tone 29 for 1;");
        CHECK.due("P38 least sour, then the least number", w.best(0), 1);
    }

    private static void sharedAndGiven() {
        CHECK.due("P39 no DESK", new LipsAndSlides().shared(), -2);
        CHECK.due("P39 no PARTS", Check.deskOf(FIRST).shared(), 0);
        CHECK.due("P40 no PARTS", Check.deskOf(FIRST).given(0), -2);
        String band = FIRST + BUGLE + man(0, 0, 1, 0);
        CHECK.due("P39 one PLAYER, one PART", Check.deskOf(band + "part;").shared(), 0);
        CHECK.due("P40 he", Check.deskOf(band + "part;").given(0), 0);
        CHECK.due("P39 one PLAYER, two PARTS", Check.deskOf(band + "part;part;").shared(), -1);
        CHECK.due("P40 one PLAYER, two PARTS", Check.deskOf(band + "part;part;").given(1), -1);
        CHECK.due("P40 no PART 2", Check.deskOf(band + "part;part;").given(2), -2);
        // nine PLAYERS and three PARTS: the first row is 0, 1, 2
        LipsAndSlides x = Check.deskOf(FIRST + BUGLE + "bugle base 11 long 500;" + man(0, 0, 1, 0).repeat(8) + man(1, 0, 1, 0)
                + "part;tone 34 for 1;part;tone 34 for 1;part;tone 34 for 1;");
        for (int part = 0; part < 3; part++) {
            CHECK.due("P40 the first row, " + part, x.given(part), part);
        }
        // the ninth alone plays the first and the last PART's pitch can be anybody's but his
        x.pitch(0, 0, 23);
        int[] want = {8, 0, 1};
        for (int part = 0; part < 3; part++) {
            CHECK.due("P40 the ninth first, " + part, x.given(part), want[part]);
        }
        x.pitch(1, 0, 23);
        CHECK.due("P39 he can't play both", x.shared(), -1);
        for (int part = -1; part <= 3; part++) {
            CHECK.due("P40 none, PART " + part, x.given(part), part >= 0 && part < 3 ? -1 : -2);
        }
        CHECK.due("P40 far PART", x.given(FAR), -2);
    }

    private static void judge() {
        LipsAndSlides x = Check.deskOf(FIRST + SLACK_SLIDE + man(0, 1, 1, 0) + "part;rest 1;tone 34 for 1;tone 34 for 1;rest 1;"
                + "tone 34 for 1;part;rest 1;part;tone 23 for 1;");
        // no such SLOT, PLAYER, PART: ahead of having nothing, that ahead of too few
        int[][] none = {{-1, 0, 0}, {4, 0, 0}, {0, -1, 0}, {0, 1, 0}, {0, 0, -1}, {0, 0, 3}, {FAR, 0, 0}, {0, FAR, 0}, {0, 0, FAR}};
        for (int width = -1; width < 4; width++) {
            if (width >= 0) {
                x.row(0, width, 2);
            }
            for (int[] n : none) {
                CHECK.due("P41 none such", x.judge(n[0], n[1], n[2]), -2);
                CHECK.due("P42 none such", x.told(n[0], n[1], n[2]), -2);
            }
            CHECK.due("P41 nothing, or too few", x.judge(0, 0, 0), width < 0 ? -6 : -7);
            CHECK.due("P42 nothing, or too few", x.told(0, 0, 0), width < 0 ? -6 : -7);
        }
        for (int n = 0; n < 3; n++) {
            x.row(0, 0, n);
            CHECK.due("P41 " + n + " of 3", x.judge(0, 0, 0), -7);
            CHECK.due("P42 " + n + " of 3", x.told(0, 0, 0), -7);
        }
        x.row(0, 0, 3);
        CHECK.due("P41 3 of 3", x.judge(0, 0, 0), 3);
        CHECK.due("P42 3 of 3", x.told(0, 0, 0), 0);
        CHECK.due("P41 no WAY at all", x.judge(0, 0, 2), 0);
        CHECK.due("P42 no WAY at all", x.told(0, 0, 2), -1);
        x.row(1, 0, 0);
        CHECK.due("P41 rests alone, no number", x.judge(1, 0, 1), 0);
        CHECK.due("P42 rests alone, no number", x.told(1, 0, 1), 0);
        x.row(3, 3, 60);
        CHECK.due("P41 SLOT 3", x.judge(3, 0, 0), 3);
        for (int slot = 0; slot < 4; slot++) {
            CHECK.due("P41 SLOT 2 alone has nothing", x.judge(slot, 0, 0) == -6 ? 1 : 0, slot == 2 ? 1 : 0);
        }
    }

    private static void judgeMore() {
        // WAYS 0 .. 6; quick 1: one beat, then one and a rest's
        LipsAndSlides x = Check.deskOf(FIRST + SLACK_SLIDE + man(0, 1, 1, 0) + "part;tone 34 for 1;tone 34 for 1;rest 1;tone 34 for 1;");
        long[][] rows = {{0, 1, 2}, {6, 6, 6}, {7, 0, 0}, {-1, 0, 0}, {0, 2, 2}, {0, 1, 7}, {0, -1, 0}, {3, 4, 1}, {3, 2, 4}, {3, 2, 5},
            {3, 2, 1L << 32}, {1L << 32, 0, 0}, {Long.MIN_VALUE, 0, 0}, {0, Long.MAX_VALUE, 0}};
        // from the second to the third there are two beats, one of the rest, so MOVE 2 may be, and 3 not
        int[] right = {3, 3, 0, 0, 1, 2, 1, 2, 3, 2, 2, 0, 0, 1};
        int[] cost = {2, 0, -1, -1, -1, -1, -1, -1, 3, -1, -1, -1, -1, -1};
        for (int n = 0; n < rows.length; n++) {
            Check.rowOf(x, 0, 3, rows[n]);
            CHECK.due("P41 row " + n, x.judge(0, 0, 0), right[n]);
            CHECK.due("P42 row " + n, x.told(0, 0, 0), cost[n]);
        }
    }

    private static void heard() {
        LipsAndSlides x = Check.deskOf(FIRST + BUGLE + HORN + SLACK_SLIDE + "bugle base 11 long 500;");
        x.row(0, 3, 0);
        CHECK.due("P43 no numbers: all BRASSES", x.heard(0), 15);
        // SETTINGS at and beyond their ends: bugle 0, slide 6; the horn has 34 by 0 and 6, and 32 by 7
        long[][] rows = {{34, 0}, {34, 6}, {34, 7}, {34, 8}, {34, -1}, {34, 1}, {35, 0}, {0, 0}, {60, 0}, {23, 0},
            {34, 1L << 32}, {34, Long.MIN_VALUE}, {32, 7}, {32, 8}};
        int[] want = {7, 6, 0, 0, 0, 4, 8, 0, 0, 8, 0, 0, 2, 0};
        for (int n = 0; n < rows.length; n++) {
            Check.rowOf(x, 0, 3, rows[n]);
            CHECK.due("P43 row " + n, x.heard(0), want[n]);
        }
        // all of them: 30 pairs, the last one wrong
        x.row(0, 0, 60);
        for (int i = 0; i < 60; i += 2) {
            x.write(0, i, 34);
        }
        CHECK.due("P43 60 numbers", x.heard(0), 7);
        x.write(0, 59, 1);
        CHECK.due("P43 the last SETTING", x.heard(0), 4);
        x.write(0, 59, 0);
        x.write(0, 58, 23);
        CHECK.due("P43 the last PITCH", x.heard(0), 0);
        x.write(0, 58, 61);
        CHECK.due("P43 the last is no PITCH", x.heard(0), -2);
        x.row(0, 0, 59);
        CHECK.due("P43 59 are not two each", x.heard(0), -2);
        x.row(0, 0, 1);
        CHECK.due("P43 one is not", x.heard(0), -2);
    }

    private static void heardOrder() {
        LipsAndSlides x = new LipsAndSlides();
        CHECK.due("P43 no DESK, nothing there", x.heard(0), -2);
        Check.feedText(x, FIRST + BUGLE);
        x.desk();
        for (int slot : new int[] {-1, 4, FAR, FAR_BELOW}) {
            CHECK.due("P43 SLOT " + slot, x.heard(slot), -2);
        }
        for (int slot = 0; slot < 4; slot++) {
            CHECK.due("P43 SLOT " + slot + " has nothing", x.heard(slot), -6);
        }
        long[] pitches = {-1, 0, 60, 61, 256, 1L << 32, Long.MAX_VALUE, Long.MIN_VALUE};
        for (long pitch : pitches) {
            Check.rowOf(x, 3, 3, pitch, 0);
            CHECK.due("P43 PITCH " + pitch, x.heard(3), pitch == 0 || pitch == 60 ? 0 : -2);
        }
        // a PITCH is asked of, though a SETTING ahead of it already told that no BRASS does
        Check.rowOf(x, 3, 3, 34, 9, 61, 0);
        CHECK.due("P43 no BRASS, and no PITCH", x.heard(3), -2);
        // SETTINGS stand where PITCHES do not: 61 as a SETTING is no fault
        Check.rowOf(x, 3, 3, 34, 61);
        CHECK.due("P43 61 as a SETTING", x.heard(3), 0);
        x.desk();
        CHECK.due("P43 no DESK any more", x.heard(3), -2);
        CHECK.due("P43 no DESK any more, nothing there", x.heard(0), -2);
    }

    private static void seeds() {
        LipsAndSlides x = Check.deskOf(FIRST + BUGLE + man(0, 0, 1, 0) + "part;tone 34 for 1;part;tone 23 for 1;part;rest 1;");
        for (int seed : new int[] {-1, FAR_BELOW, 2000000001, FAR}) {
            for (int part = 0; part < 3; part++) {
                CHECK.due("P44 seed " + seed, x.cracks(seed, 0, part), -2);
                CHECK.due("P45 seed " + seed, x.cracked(seed, 0, part), -2);
                CHECK.due("P46 seed " + seed, x.clean(seed, 1, 0, part), -2);
            }
        }
        // from 0 the first draw is 0, from 2,000,000,000 it is 4: both are below 8
        for (int seed : new int[] {0, 2000000000}) {
            CHECK.due("P44 seed " + seed, x.cracks(seed, 0, 0), 1);
            CHECK.due("P45 seed " + seed, x.cracked(seed, 0, 0), 0);
            CHECK.due("P46 seed " + seed, x.clean(seed, 1, 0, 0), 0);
            CHECK.due("P44 no PLAY, seed " + seed, x.cracks(seed, 0, 1), -1);
            CHECK.due("P45 no PLAY, seed " + seed, x.cracked(seed, 0, 1), -1);
            CHECK.due("P46 no PLAY, seed " + seed, x.clean(seed, 1, 0, 1), -1);
            CHECK.due("P44 rests, seed " + seed, x.cracks(seed, 0, 2), 0);
            CHECK.due("P45 rests, seed " + seed, x.cracked(seed, 0, 2), -1);
            CHECK.due("P46 rests, seed " + seed, x.clean(seed, 1, 0, 2), 1);
        }
        // the first draw from 1 is 38
        CHECK.due("P45 none cracks", x.cracked(1, 0, 0), -1);
    }

    private static void clean() {
        LipsAndSlides x = Check.deskOf(FIRST + BUGLE + man(0, 0, 1, 0) + "part;tone 34 for 1;part;tone 23 for 1;");
        int clean = 0;
        for (int n = 1; n <= 20; n++) {
            clean += x.cracks(n - 1, 0, 0) == 0 ? 1 : 0;
            CHECK.due("P46 of " + n, x.clean(0, n, 0, 0), clean);
        }
        for (int n : new int[] {0, -1, 21, FAR, FAR_BELOW}) {
            CHECK.due("P46 n " + n, x.clean(0, n, 0, 0), -2);
            CHECK.due("P46 no PLAY, n " + n, x.clean(0, n, 0, 1), -2);
        }
        CHECK.due("P46 no PLAY, n 20", x.clean(0, 20, 0, 1), -1);
        int far = 0;
        for (int n = 0; n < 20; n++) {
            // reckoned with remainders alone, as the seeds behind the greatest can't be asked for one by one
            long next = (1103515245L * (2000000000L + n) + 12345L) & 2147483647L;
            far += (next >> 16) % 100 < 8 ? 0 : 1;
        }
        CHECK.due("P46 the greatest seed and n", x.clean(2000000000, 20, 0, 0), far);
    }

    // ---- promises 47 to 57

    private static void train() {
        LipsAndSlides x = Check.deskOf(FIRST + BUGLE + man(0, 5, 5, 5).repeat(9) + "part;tone 34 for 9;");
        int[][] bounds = {{1, 0, 9}, {2, 1, 30}, {3, 0, 999}};
        for (int[] b : bounds) {
            CHECK.due("P47 the least of " + b[0], x.train(8, b[0], b[1]), 5);
            CHECK.due("P47 the greatest of " + b[0], x.train(8, b[0], b[2]), b[1]);
            CHECK.due("P47 below of " + b[0], x.train(8, b[0], b[1] - 1), -2);
            CHECK.due("P47 above of " + b[0], x.train(8, b[0], b[2] + 1), -2);
            CHECK.due("P47 it is so from now on", x.player(8, b[0]), b[2]);
            CHECK.due("P47 of him alone", x.player(7, b[0]), 5);
        }
        CHECK.due("P47 what 0", x.train(8, 0, 0), -2);
        CHECK.due("P47 what 4", x.train(8, 4, 1), -2);
        CHECK.due("P47 PLAYER 9", x.train(9, 1, 1), -2);
        CHECK.due("P47 PLAYER -1", x.train(-1, 1, 1), -2);
        CHECK.due("P47 choked ahead", x.choked(0, 0), 0);
        x.train(0, 2, 9);
        CHECK.due("P47 not choked then", x.choked(0, 0), -1);
        x.train(0, 3, 8);
        CHECK.due("P47 tired then", x.tired(0, 0), 0);
        x.train(0, 3, 9);
        CHECK.due("P47 not tired then", x.tired(0, 0), -1);
    }

    private static void tuneAndPitch() {
        LipsAndSlides x = Check.deskOf(FIRST + BUGLE.repeat(3) + HORN + "part;" + "rest 1;".repeat(15) + "tone 5 for 1;");
        CHECK.due("P48 the least", x.tune(3, 100), 500);
        CHECK.due("P48 the greatest", x.tune(3, 999), 100);
        CHECK.due("P48 below", x.tune(3, 99), -2);
        CHECK.due("P48 above", x.tune(3, 1000), -2);
        CHECK.due("P48 BRASS 4", x.tune(4, 500), -2);
        CHECK.due("P48 BRASS -1", x.tune(-1, 500), -2);
        CHECK.due("P48 so long from now on", x.flat(3, 1), 3462 * 61 / (2 * 999 + 61));
        CHECK.due("P48 of it alone", x.brass(2, 2), 500);
        CHECK.due("P49 the least", x.pitch(0, 15, 0), 5);
        CHECK.due("P49 the greatest", x.pitch(0, 15, 60), 0);
        CHECK.due("P49 below", x.pitch(0, 15, -1), -2);
        CHECK.due("P49 above", x.pitch(0, 15, 61), -2);
        CHECK.due("P49 a rest", x.pitch(0, 14, 5), -2);
        CHECK.due("P49 TONE 16", x.pitch(0, 16, 5), -2);
        CHECK.due("P49 it is so", x.tone(0, 15, 0), 60);
        CHECK.due("P50 it was not", x.slur(0, 15, 1), 0);
        CHECK.due("P50 it was", x.slur(0, 15, 0), 1);
        CHECK.due("P50 it was not again", x.slur(0, 15, 0), 0);
        CHECK.due("P50 2", x.slur(0, 15, 2), -2);
        CHECK.due("P50 -1", x.slur(0, 15, -1), -2);
        CHECK.due("P50 a rest", x.slur(0, 14, 0), -2);
        CHECK.due("P50 TONE 16", x.slur(0, 16, 1), -2);
        // a slur changes the PLAYS from now on
        LipsAndSlides y = one(BUGLE, 0, "tone 22 for 1;tone 46 for 1;");
        CHECK.due("P50 it can be played", y.plays(0, 0), 1);
        y.slur(0, 0, 1);
        CHECK.due("P50 slurred it can't", y.plays(0, 0), 0);
    }

    private static void lengths() {
        LipsAndSlides x = Check.deskOf(FIRST + "part;part;rest 1;part;tone 1 for 9;");
        int[] beats = {0, 1, 9};
        int[] tones = {0, 1, 1};
        int[] pitches = {0, 0, 1};
        for (int part = -1; part <= 3; part++) {
            boolean is = part >= 0 && part < 3;
            CHECK.due("P51 PART " + part, x.beats(part), is ? beats[part] : -2);
            CHECK.due("P53 PART " + part, x.pitches(part), is ? pitches[part] : -2);
            CHECK.due("P55 PART " + part, x.tones(part), is ? tones[part] : -2);
        }
        StringBuilder all = new StringBuilder(FIRST + "part;");
        for (int n = 0; n < 16; n++) {
            all.append("tone ").append(n * 4).append(" for 1;");
        }
        CHECK.due("P53 all unlike", Check.deskOf(all.toString()).pitches(0), 16);
        CHECK.due("P53 all alike", Check.deskOf(FIRST + "part;" + "tone 60 for 1;".repeat(16)).pitches(0), 1);
    }

    private static void phrase() {
        String[] part = {"", "rest 9;", "tone 1 for 1;", "rest 1;tone 1 for 1;", "tone 1 for 2;rest 1;tone 1 for 2;",
            "tone 1 for 2;rest 1;tone 1 for 1;tone 1 for 2;rest 1;", "tone 1 for 9;".repeat(16)};
        int[] most = {0, 0, 1, 1, 2, 3, 144};
        int[] first = {-1, -1, 0, 1, 0, 2, 0};
        for (int n = 0; n < part.length; n++) {
            LipsAndSlides x = Check.deskOf(FIRST + "part;" + part[n]);
            CHECK.due("P52 most of " + part[n], x.phrase(0, 0), most[n]);
            CHECK.due("P52 first of " + part[n], x.phrase(0, 1), first[n]);
            CHECK.due("P52 what 2", x.phrase(0, 2), -2);
            CHECK.due("P52 what -1", x.phrase(0, -1), -2);
            CHECK.due("P52 PART 1", x.phrase(1, 0), -2);
            CHECK.due("P52 PART -1", x.phrase(-1, 1), -2);
        }
    }

    private static void count() {
        LipsAndSlides x = new LipsAndSlides();
        for (int what : new int[] {-1, 8, FAR, FAR_BELOW}) {
            CHECK.due("P54 what " + what, x.count(what), -1);
        }
        for (int slot = 0; slot < 4; slot++) {
            x.row(slot, 0, 0);
            CHECK.due("P54 SLOTS that have a row, be it empty", x.count(7), slot + 1);
        }
        x.row(0, 3, 60);
        CHECK.due("P54 in place of another", x.count(7), 4);
        x.feed(0, 0, 0, 0, 0);
        CHECK.due("P54 bytes", x.count(6), 20);
        x.end(1);
        CHECK.due("P54 one byte", x.count(6), 1);
    }

    private static void images() {
        LipsAndSlides x = full();
        for (int k = 0; k < 3; k++) {
            CHECK.due("P57 nothing in " + k, x.back(k), -6);
            CHECK.due("P56 keep " + k, x.keep(k), 0);
            x.train(8, 1, k);
        }
        CHECK.due("P56 -1", x.keep(-1), -2);
        CHECK.due("P56 3", x.keep(3), -2);
        CHECK.due("P57 -1", x.back(-1), -2);
        CHECK.due("P57 3", x.back(3), -2);
        int[] quick = {8, 0, 1};
        Check.feedText(x, FIRST);
        x.desk();
        for (int k = 2; k >= 0; k--) {
            CHECK.due("P57 back to " + k, x.back(k), 0);
            CHECK.due("P57 as it has it", x.player(8, 1), quick[k]);
            CHECK.due("P57 all LINES", x.count(5), 65);
            CHECK.due("P57 the last TONE", x.tone(2, 15, 0), 60);
            CHECK.due("P57 the last BRASS", x.brass(3, 0), 0);
        }
        // an image of no DESK is one
        LipsAndSlides y = new LipsAndSlides();
        CHECK.due("P56 no DESK", y.keep(0), 0);
        CHECK.due("P57 no DESK", y.back(0), 0);
        CHECK.due("P57 there is none", y.shared(), -2);
        Check.feedText(y, FIRST);
        y.desk();
        CHECK.due("P57 back to none", y.back(0), 0);
        CHECK.due("P57 there is none again", y.shared(), -2);
        CHECK.due("P57 no LINES", y.count(5), 0);
        CHECK.due("P57 no cents", y.count(0), 0);
    }

    // ---- promises 58 to 60

    /** A desk on which a number 0 .. 6 of a row can be seen: as the second WAY it is the COST. */
    private static LipsAndSlides showing() {
        return Check.deskOf(FIRST + SLACK_SLIDE + man(0, 9, 1, 0) + "part;tone 34 for 1;tone 34 for 1;");
    }

    private static int number(LipsAndSlides x, int slot, int width, int i) {
        x.row(3, width, 2);
        CHECK.due("P60 to be seen", x.paste(slot, i, 3, 1, 1), 0);
        return x.told(3, 0, 0);
    }

    private static void rows() {
        for (int width = 0; width < 4; width++) {
            LipsAndSlides x = showing();
            CHECK.due("P58 60 numbers", x.row(0, width, 60), 0);
            CHECK.due("P58 61 numbers", x.row(0, width, 61), -2);
            for (int i = 0; i < 60; i++) {
                CHECK.due("P58 all 0", number(x, 0, width, i), 0);
            }
            CHECK.due("P59 the first", x.write(0, 0, 5), 0);
            CHECK.due("P59 the last", x.write(0, 59, 6), 0);
            CHECK.due("P58 -1 numbers", x.row(0, width, -1), -3);
            CHECK.due("P58 the SLOT stays, first", number(x, 0, width, 0), 5);
            CHECK.due("P58 the SLOT stays, last", number(x, 0, width, 59), 6);
            CHECK.due("P58 none at all", x.row(0, width, 0), 0);
            CHECK.due("P59 there is none", x.write(0, 0, 1), -7);
            CHECK.due("P58 60 again", x.row(0, width, 60), 0);
            CHECK.due("P58 all 0 again, first", number(x, 0, width, 0), 0);
            CHECK.due("P58 all 0 again, last", number(x, 0, width, 59), 0);
        }
        LipsAndSlides y = showing();
        for (int slot = 0; slot < 4; slot++) {
            CHECK.due("P58 SLOT " + slot, y.row(slot, 0, 1), 0);
        }
        CHECK.due("P58 SLOT 4", y.row(4, 0, 1), -2);
        CHECK.due("P58 SLOT -1", y.row(-1, 0, 1), -2);
        CHECK.due("P58 WIDTH 4", y.row(0, 4, 1), -2);
        CHECK.due("P58 WIDTH -1", y.row(0, -1, 1), -2);
    }

    private static void writes() {
        int[] bits = {8, 16, 32, 64};
        for (int width = 0; width < 4; width++) {
            LipsAndSlides x = showing();
            x.row(0, width, 3);
            for (int v = 0; v <= 6; v++) {
                CHECK.due("P59 " + v, x.write(0, 1, v), 0);
                CHECK.due("P59 it is " + v, number(x, 0, width, 1), v);
                if (width < 3) {
                    x.write(0, 1, (1L << bits[width]) + v);
                    CHECK.due("P59 cut to its WIDTH", number(x, 0, width, 1), v);
                    x.write(0, 1, v - (1L << bits[width]));
                    CHECK.due("P59 cut to its WIDTH from below 0", number(x, 0, width, 1), v);
                    x.write(0, 1, (1L << bits[width] - 1) + v);
                    CHECK.due("P59 a higher bit is within", number(x, 0, width, 1), -1);
                }
            }
            CHECK.due("P59 the one ahead stays", number(x, 0, width, 0), 0);
            CHECK.due("P59 the one behind stays", number(x, 0, width, 2), 0);
            CHECK.due("P59 number 3", x.write(0, 3, 1), -7);
            CHECK.due("P59 number -1", x.write(0, -1, 1), -7);
            x.write(0, 1, -1);
            CHECK.due("P59 -1 is no WAY", number(x, 0, width, 1), -1);
            x.write(0, 1, Long.MAX_VALUE);
            CHECK.due("P59 the greatest is no WAY", number(x, 0, width, 1), -1);
            x.write(0, 1, Long.MIN_VALUE);
            CHECK.due("P59 the least, cut to 0", number(x, 0, width, 1), width < 3 ? 0 : -1);
        }
    }

    private static void pastes() {
        for (int width = 0; width < 4; width++) {
            LipsAndSlides x = showing();
            Check.rowOf(x, 0, width, 1, 2, 3, 4, 5);
            // to another one's, as many as fit
            x.row(1, width, 4);
            CHECK.due("P60 one too many", x.paste(0, 0, 1, 0, 5), -7);
            CHECK.due("P60 all that fit", x.paste(0, 1, 1, 0, 4), 0);
            rowIs(x, 1, width, 2, 3, 4, 5);
            CHECK.due("P60 the last alone", x.paste(0, 0, 1, 3, 1), 0);
            rowIs(x, 1, width, 2, 3, 4, 1);
            CHECK.due("P60 behind the last", x.paste(0, 0, 1, 4, 1), -7);
            CHECK.due("P60 from behind the last", x.paste(0, 5, 1, 0, 1), -7);
            CHECK.due("P60 none, behind the last of both", x.paste(0, 5, 1, 4, 0), 0);
            CHECK.due("P60 none", x.paste(0, 0, 1, 0, 0), 0);
            rowIs(x, 1, width, 2, 3, 4, 1);
            // to its own, as they were
            CHECK.due("P60 up by one", x.paste(0, 0, 0, 1, 4), 0);
            rowIs(x, 0, width, 1, 1, 2, 3, 4);
            CHECK.due("P60 down by one", x.paste(0, 1, 0, 0, 4), 0);
            rowIs(x, 0, width, 1, 2, 3, 4, 4);
            CHECK.due("P60 all to where they are", x.paste(0, 0, 0, 0, 5), 0);
            rowIs(x, 0, width, 1, 2, 3, 4, 4);
            CHECK.due("P60 of another WIDTH", x.row(2, (width + 1) % 4, 4), 0);
            CHECK.due("P60 not of one WIDTH", x.paste(0, 0, 2, 0, 1), -8);
        }
    }

    /** One object, asked of one thing after another: what was found for one does not show in the next. */
    private static void askedAgain() {
        LipsAndSlides x = Check.deskOf(FIRST + HORN + man(0, 9, 4, 999) + man(0, 9, 4, 999) + "part;" + "tone 34 for 4 breath;".repeat(8)
                + "part;tone 34 for 1;tone 33 for 1;part;tone 34 for 1;rest 9;tone 34 for 4;");
        CHECK.due("P29 seven", x.breaths(0, 0), 7);
        CHECK.due("P30 seven bits", x.marks(0, 0), 127);
        CHECK.due("P30 none then", x.marks(0, 1), 0);
        CHECK.due("P29 none then", x.breaths(0, 1), 0);
        CHECK.due("P35 all", x.doubles(3, 0), 8);
        CHECK.due("P35 none then", x.doubles(3, 1), 0);
        CHECK.due("P36 nobody then", x.leaves(3, 1, 1), -1);
        CHECK.due("P35 rests then", x.doubles(3, 2), 0);
        CHECK.due("P22 one can", x.stuck(0, 1), -1);
        CHECK.due("P28 no shift", x.shift(0, 1), 0);
        x.train(0, 1, 0);
        CHECK.due("P22 one can't any more", x.stuck(0, 1), 1);
        CHECK.due("P22 the other can", x.stuck(1, 1), -1);
        CHECK.due("P22 the first can't still", x.stuck(0, 1), 1);
        CHECK.due("P17 nor plays", x.plays(0, 1), 0);
        CHECK.due("P28 by no shift", x.shift(0, 1), -100);
        CHECK.due("P26 nor moved", x.moved(0, 1), -1);
        x.train(0, 1, 1);
        CHECK.due("P22 one can again", x.stuck(0, 1), -1);
        // a crack is of the seed asked for, not of one asked before
        LipsAndSlides y = one(BUGLE, 0, "tone 34 for 1;");
        CHECK.due("P45 none from 1", y.cracked(1, 0, 0), -1);
        CHECK.due("P45 the first from 0", y.cracked(0, 0, 0), 0);
        CHECK.due("P44 none from 1", y.cracks(1, 0, 0), 0);
        CHECK.due("P45 the first from 0 again", y.cracked(0, 0, 0), 0);
        CHECK.due("P46 none of one", y.clean(0, 1, 0, 0), 0);
        CHECK.due("P45 none from 1 again", y.cracked(1, 0, 0), -1);
    }

    private static void rowIs(LipsAndSlides x, int slot, int width, int... want) {
        for (int i = 0; i < want.length; i++) {
            CHECK.due("P60 number " + i + " of SLOT " + slot, number(x, slot, width, i), want[i]);
        }
    }
}
