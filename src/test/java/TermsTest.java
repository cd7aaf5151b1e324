/** The sentences of the terms I to V that name a bound: the last value within it and the first outside. */
public final class TermsTest {
    private static final Check CHECK = new Check("TermsTest");
    private static final String FIRST = "desk cents 20 highest 8;";
    private static final String BUGLE = "bugle base 10 long 500;";
    private static final String MAN = "player 0 quick 0 air 30 lips 999;";
    private static final String SLACK_HORN = "horn base 10 long 500 valves 0 0 0 draws 0;";
    private static final String SLACK_SLIDE = "slide base 10 long 500 step 0;";

    public static void main(String[] args) {
        numbersOfTheText();
        wordsOfTheText();
        wordsLetterByLetter();
        tokens();
        tooMany();
        firstFault();
        allFull();
        settings();
        flatIsCut();
        partials();
        draws();
        waysEitherWay();
        waysByPartialThenSetting();
        moves();
        handsAreQuickEnough();
        slursOfPartials();
        slursOfSlides();
        smears();
        bestOfSeveral();
        movedWithinPitches();
        air();
        lips();
        doubles();
        drawsFromSeeds();
        CHECK.finish();
    }

    // ---- I

    private static int read(String text) {
        LipsAndSlides x = new LipsAndSlides();
        Check.feedText(x, text);
        return x.desk();
    }

    private static void faulty(String text, int kind, int place) {
        LipsAndSlides x = new LipsAndSlides();
        Check.feedText(x, text);
        CHECK.due("I desk() of " + text, x.desk(), -4);
        CHECK.due("I fault of " + text, x.fault(0), kind);
        CHECK.due("I place in " + text, x.fault(1), place);
    }

    /** A text with # where a number stands: the bounds are right, one below and one above are not. */
    private static void bounds(String text, int lines, int least, int most) {
        int place = text.indexOf('#');
        CHECK.due("I " + least + " in " + text, read(text.replace("#", "" + least)), lines);
        CHECK.due("I " + most + " in " + text, read(text.replace("#", "" + most)), lines);
        faulty(text.replace("#", "" + (most + 1)), 2, place);
        if (least > 0) {
            faulty(text.replace("#", "" + (least - 1)), 2, place);
        } else {
            // there is no number below 0: the sign is no token
            faulty(text.replace("#", "-1"), 1, place);
        }
    }

    private static void numbersOfTheText() {
        bounds("desk cents # highest 8;", 1, 1, 60);
        bounds("desk cents 20 highest #;", 1, 2, 12);
        for (String kind : new String[] {"bugle base # long 500;", "horn base # long 500 valves 1 1 1 draws 1;",
            "slide base # long 500 step 1;"}) {
            bounds(FIRST + kind, 2, 0, 40);
        }
        for (String kind : new String[] {"bugle base 1 long #;", "horn base 1 long # valves 1 1 1 draws 1;",
            "slide base 1 long # step 1;"}) {
            bounds(FIRST + kind, 2, 100, 999);
        }
        bounds(FIRST + "horn base 1 long 500 valves # 1 1 draws 1;", 2, 0, 400);
        bounds(FIRST + "horn base 1 long 500 valves 1 # 1 draws 1;", 2, 0, 400);
        bounds(FIRST + "horn base 1 long 500 valves 1 1 # draws 1;", 2, 0, 400);
        bounds(FIRST + "horn base 1 long 500 valves 1 1 1 draws #;", 2, 0, 60);
        bounds(FIRST + "slide base 1 long 500 step #;", 2, 0, 100);
        bounds(FIRST + BUGLE + "player # quick 1 air 1 lips 1;", 3, 0, 0);
        bounds(FIRST + BUGLE.repeat(4) + "player # quick 1 air 1 lips 1;", 6, 0, 3);
        bounds(FIRST + BUGLE + "player 0 quick # air 1 lips 1;", 3, 0, 9);
        bounds(FIRST + BUGLE + "player 0 quick 1 air # lips 1;", 3, 1, 30);
        bounds(FIRST + BUGLE + "player 0 quick 1 air 1 lips #;", 3, 0, 999);
        bounds(FIRST + "part;tone # for 1;", 3, 0, 60);
        bounds(FIRST + "part;tone 1 for #;", 3, 1, 9);
        bounds(FIRST + "part;rest #;", 3, 1, 9);
        // B is a BRASS told ahead, not behind
        faulty(FIRST + "player 0 quick 1 air 1 lips 1;" + BUGLE, 2, FIRST.length() + 7);
        faulty(FIRST + BUGLE + "player 1 quick 1 air 1 lips 1;" + BUGLE, 2, FIRST.length() + BUGLE.length() + 7);
    }

    private static void wordsOfTheText() {
        // desk is the first LINE and no other
        faulty("", FIRST, 1, 0, "desk cents 20 highest 8;");
        faulty("part;", "", 1, 0, "");
        // tone, rest: of the PART told last, so there is one
        faulty("", FIRST, 1, 0, "tone 1 for 1;");
        faulty("", FIRST, 1, 0, "rest 1;");
        LipsAndSlides x = Check.deskOf(FIRST + "part;tone 1 for 1;part;tone 2 for 1;" + BUGLE + "tone 3 for 1;");
        CHECK.due("I the first PART has one", x.tones(0), 1);
        CHECK.due("I the PART told last has two", x.tones(1), 2);
        CHECK.due("I behind a BRASS too", x.tone(1, 1, 0), 3);
        // [slurred] [breath]: none, either, both, but not the other way round nor twice
        String tone = FIRST + "part;tone 1 for 1";
        String[] fine = {";", " slurred;", " breath;", " slurred breath;"};
        for (int n = 0; n < fine.length; n++) {
            LipsAndSlides y = Check.deskOf(tone + fine[n]);
            CHECK.due("I slurred of" + fine[n], y.tone(0, 0, 2), n % 2);
            CHECK.due("I breath of" + fine[n], y.tone(0, 0, 3), n / 2);
        }
        faulty(tone + " breath slurred;", 1, tone.length() + 8);
        faulty(tone + " slurred slurred;", 1, tone.length() + 9);
        faulty(tone + " slurred breath breath;", 1, tone.length() + 16);
        faulty(FIRST + "part;rest 1 slurred;", 1, FIRST.length() + 12);
        faulty(FIRST + "part;rest 1 breath;", 1, FIRST.length() + 12);
    }

    private static void faulty(String ahead, String begin, int kind, int place, String line) {
        faulty(ahead + begin + line, kind, begin.length() + place);
    }

    /** A word with another letter, with one letter less or one more is another word. */
    private static void wordsLetterByLetter() {
        String text = FIRST + BUGLE + "horn base 10 long 500 valves 61 30 95 draws 20;" + SLACK_SLIDE + MAN
                + "part;tone 1 for 1 slurred breath;rest 1;";
        int lines = 8;
        CHECK.due("I all words", read(text), lines);
        java.util.regex.Matcher word = java.util.regex.Pattern.compile("[a-z]+").matcher(text);
        while (word.find()) {
            for (int at = word.start(); at < word.end(); at++) {
                char other = text.charAt(at) == 'a' ? 'z' : 'a';
                faulty(text.substring(0, at) + other + text.substring(at + 1), 1, word.start());
                faulty(text.substring(0, at) + text.substring(at + 1), 1, word.start());
                faulty(text.substring(0, at) + "z" + text.substring(at), 1, word.start());
            }
            faulty(text.substring(0, word.end()) + "a" + text.substring(word.end()), 1, word.start());
            boolean needed = !word.group().equals("slurred") && !word.group().equals("breath");
            if (needed) {
                faulty(text.substring(0, word.start()) + text.substring(word.end()), 1, nextToken(text, word.start(), word.end()));
            }
        }
    }

    /** Where the token behind a word stands, once the word itself is cut out. */
    private static int nextToken(String text, int begin, int end) {
        int at = end;
        while (text.charAt(at) == ' ') {
            at++;
        }
        return at - (end - begin);
    }

    private static void tokens() {
        // blanks are 32 and 10, and no others
        for (int sign = 0; sign < 256; sign++) {
            String text = FIRST + (char) sign + "part;";
            boolean letter = sign >= 'a' && sign <= 'z';
            if (sign == 32 || sign == 10) {
                CHECK.due("I a blank " + sign, read(text), 2);
            } else {
                // a letter makes another word of it, a digit or a sign can't stand there
                faulty(text, 1, FIRST.length());
            }
            if (!letter) {
                String split = FIRST + "pa" + (char) sign + "rt;";
                faulty(split, 1, FIRST.length());
            }
        }
        // the longest: no blanks are needed between words and numbers, but between words and between numbers
        CHECK.due("I no blanks", read("desk cents20highest8;horn base1long100valves0 0 0draws0;"), 2);
        faulty("deskcents 20 highest 8;", 1, 0);
        faulty("desk cents 20 highest 8;horn base 1 long 100 valves 000 draws 0;", 1, 56);
        CHECK.due("I blanks everywhere", read("\n \n desk \n cents \n 20 \n highest \n 8 \n ; \n "), 1);
        CHECK.due("I zeros ahead", read("desk cents 00000000000000000000000000000060 highest 0012;"), 1);
        faulty("desk cents 00000000000000000000000000000061 highest 0012;", 2, 11);
        // numbers that would be right if they were cut to 32 or 64 bits
        faulty("desk cents 4294967297 highest 8;", 2, 11);
        faulty("desk cents 18446744073709551617 highest 8;", 2, 11);
        faulty("desk cents 2147483648 highest 8;", 2, 11);
    }

    private static void tooMany() {
        String[] brasses = {BUGLE, SLACK_HORN, SLACK_SLIDE};
        String four = FIRST + BUGLE + SLACK_HORN + SLACK_SLIDE + BUGLE;
        CHECK.due("I four BRASSES", read(four), 5);
        for (String fifth : brasses) {
            faulty(four + " " + fifth, 3, four.length() + 1);
        }
        String nine = FIRST + BUGLE + MAN.repeat(9);
        CHECK.due("I nine PLAYERS", read(nine), 11);
        faulty(nine + "\n\n" + MAN, 3, nine.length() + 2);
        String three = FIRST + "part;part;part;";
        CHECK.due("I three PARTS", read(three), 4);
        faulty(three + "part;", 3, three.length());
        for (String last : new String[] {"tone 1 for 1;", "rest 1;"}) {
            String sixteen = FIRST + "part;" + "rest 1;tone 1 for 1;".repeat(8);
            CHECK.due("I sixteen TONES, rests too", read(sixteen), 18);
            faulty(sixteen + last, 3, sixteen.length());
            CHECK.due("I another PART has room", read(sixteen + "part;" + last), 20);
        }
    }

    private static void firstFault() {
        // the first by its place, whatever its kind
        faulty("desk cents 0 highest !;", 2, 11);
        faulty("desk ! cents 0 highest 8;", 1, 5);
        faulty(FIRST + "part;part;part;part!", 3, FIRST.length() + 15);
        faulty(FIRST + "part;part;part!part;", 1, FIRST.length() + 14);
        faulty(FIRST + "part;part;part;tone 61 for 1;part;", 2, FIRST.length() + 20);
        // of one place the least: what can't stand there is that ahead of all
        faulty(FIRST + "part;part;part;part part;", 3, FIRST.length() + 15);
        faulty(FIRST + "part;part;part part;", 1, FIRST.length() + 15);
        faulty(FIRST + "part;tone 1 99 1;", 1, FIRST.length() + 12);
        faulty(FIRST + "part 99;", 1, FIRST.length() + 5);
        // the end's place is the TAPE's length, behind blanks
        faulty("desk cents 20 highest 8", 1, 23);
        faulty("desk cents 20 highest 8  \n", 1, 26);
        faulty("desk", 1, 4);
        faulty(FIRST + "part", 1, FIRST.length() + 4);
        String full = FIRST + " ".repeat(2000 - FIRST.length() - 4) + "part";
        faulty(full, 1, 2000);
        CHECK.due("I as long as may be", read(FIRST + " ".repeat(2000 - FIRST.length())), 1);
    }

    private static void allFull() {
        String part = "part;" + "tone 60 for 9 slurred breath;".repeat(16);
        String text = "desk cents 60 highest 12;" + SLACK_HORN.repeat(4) + "player 3 quick 9 air 30 lips 999;".repeat(9)
                + part + "part;" + "tone 1 for 1;".repeat(15) + "rest 9;" + "part;" + "rest 9;".repeat(16);
        LipsAndSlides x = Check.deskOf(text);
        CHECK.due("I all LINES", x.count(5), 1 + 4 + 9 + 3 + 48);
        CHECK.due("I BRASS 3", x.brass(3, 0), 1);
        CHECK.due("I no BRASS 4", x.brass(4, 0), -2);
        CHECK.due("I PLAYER 8", x.player(8, 0), 3);
        CHECK.due("I no PLAYER 9", x.player(9, 0), -2);
        CHECK.due("I TONE 15 of PART 1", x.tone(1, 15, 1), 9);
        CHECK.due("I no TONE 16", x.tone(1, 16, 1), -2);
        CHECK.due("I PART 2", x.tone(2, 15, 0), -1);
        CHECK.due("I no PART 3", x.tone(3, 0, 0), -2);
        CHECK.due("I the longest PART", x.beats(0), 144);
        CHECK.due("I its last TONE", x.tone(0, 15, 4), 135);
    }

    // ---- II

    private static void settings() {
        LipsAndSlides x = Check.deskOf(FIRST + BUGLE + SLACK_HORN + SLACK_SLIDE);
        int[] last = {0, 7, 6};
        for (int brass = 0; brass < 3; brass++) {
            CHECK.due("II SETTING 0 of " + brass, x.flat(brass, 0), 0);
            CHECK.due("II last SETTING of " + brass, x.flat(brass, last[brass]), 0);
            CHECK.due("II none behind it of " + brass, x.flat(brass, last[brass] + 1), -2);
            CHECK.due("II none below 0 of " + brass, x.flat(brass, -1), -2);
            CHECK.due("II all of " + brass + " are WAYS", x.ways(brass, 34), last[brass] + 1);
        }
        // bit i: valve i is down
        LipsAndSlides y = Check.deskOf(FIRST + "horn base 0 long 100 valves 1 20 300 draws 0;slide base 0 long 100 step 100;");
        for (int setting = 0; setting < 8; setting++) {
            int longer = setting % 2 + setting / 2 % 2 * 20 + setting / 4 * 300;
            CHECK.due("II LONGER by valves " + setting, y.flat(0, setting), 3462 * longer / (200 + longer));
        }
        for (int place = 0; place < 7; place++) {
            CHECK.due("II LONGER by place " + place, y.flat(1, place), 3462 * place * 100 / (200 + place * 100));
        }
    }

    private static void flatIsCut() {
        // 3462 * 1 / 1001 is 3.46, 3462 * 13 / 1013 is 44.43, 3462 * 29 / 1029 is 97.57
        LipsAndSlides x = Check.deskOf(FIRST + "horn base 0 long 500 valves 1 13 29 draws 0;"
                + "horn base 0 long 999 valves 400 400 400 draws 0;horn base 0 long 100 valves 400 400 400 draws 0;"
                + "slide base 0 long 999 step 0;");
        CHECK.due("II FLAT of 1", x.flat(0, 1), 3);
        CHECK.due("II FLAT of 13", x.flat(0, 2), 44);
        CHECK.due("II FLAT of 29", x.flat(0, 4), 97);
        CHECK.due("II FLAT of 1200 on a long one", x.flat(1, 7), 1299);
        CHECK.due("II FLAT of 1200 on a short one", x.flat(2, 7), 2967);
        CHECK.due("II FLAT of nothing", x.flat(3, 6), 0);
    }

    private static void partials() {
        int[] cents = {1200, 1902, 2400, 2786, 3102, 3369, 3600, 3804, 3986, 4151, 4302};
        for (int highest = 2; highest <= 12; highest++) {
            LipsAndSlides x = Check.deskOf("desk cents 1 highest " + highest + ";bugle base 10 long 500;");
            for (int partial = 0; partial <= 14; partial++) {
                boolean is = partial >= 2 && partial <= highest;
                CHECK.due("II partial " + partial + " of " + highest, x.off(0, 10, partial, 0), is ? cents[partial - 2] : -100000);
            }
        }
        LipsAndSlides y = Check.deskOf(FIRST + "bugle base 0 long 100;bugle base 40 long 999;");
        CHECK.due("II OFF of the least base and the greatest PITCH", y.off(0, 60, 2, 0), 1200 - 6000);
        CHECK.due("II OFF of the greatest base and the least PITCH", y.off(1, 0, 8, 0), 4000 + 3600);
    }

    private static void draws() {
        // of long 500 and valve 95 the draws 0 .. 3 are 300, 303, 306, 309 flat; 34 by 5 wants 386, 31 by 4 wants 300
        String horn = "horn base 10 long 500 valves 0 0 95 draws ";
        for (int most : new int[] {0, 1, 29, 30, 31, 60}) {
            LipsAndSlides x = Check.deskOf(FIRST + horn + most + ";");
            int wanted = 386;
            int nearest = 0;
            for (int draw = 1; draw <= most; draw++) {
                int away = Math.abs(wanted - 3462 * (95 + draw) / (1095 + draw));
                nearest = away < Math.abs(wanted - 3462 * (95 + nearest) / (1095 + nearest)) ? draw : nearest;
            }
            CHECK.due("II drawn of " + most, x.drawnOut(0, 34, 5, 4), nearest);
            CHECK.due("II OFF drawn of " + most, x.off(0, 34, 5, 4), wanted - 3462 * (95 + nearest) / (1095 + nearest));
            CHECK.due("II nothing drawn for FLAT", x.flat(0, 4), 300);
            CHECK.due("II drawn 0, if nothing is needed", x.drawnOut(0, 31, 4, 4), 0);
            CHECK.due("II drawn 0, if it is too flat", x.drawnOut(0, 32, 4, 4), 0);
            CHECK.due("II drawn all, if it never does", x.drawnOut(0, 0, 8, 4), most);
            for (int setting = 0; setting < 8; setting++) {
                CHECK.due("II valve 2 alone draws, " + setting, x.drawnOut(0, 0, 8, setting), setting >= 4 ? most : 0);
            }
        }
        // +1 by 7 and -1 by 8 are as near: the least
        LipsAndSlides y = Check.deskOf(FIRST + "horn base 10 long 500 valves 61 30 95 draws 20;");
        CHECK.due("II the least of several", y.drawnOut(0, 33, 5, 5), 7);
        CHECK.due("II its OFF", y.off(0, 33, 5, 5), 1);
    }

    private static void waysEitherWay() {
        // 29 by 3 is +2, 38 by 5 is -14, 34 by 4 is 0
        int[][] want = {{1, 29, 0}, {2, 29, 1}, {13, 38, 0}, {14, 38, 1}, {1, 34, 1}, {60, 34, 1}};
        for (int[] w : want) {
            LipsAndSlides x = Check.deskOf("desk cents " + w[0] + " highest 8;" + BUGLE);
            CHECK.due("II " + w[1] + " by " + w[0] + " cents", x.ways(0, w[1]), w[2]);
        }
        // 61 flat in place 6 of 7 of a slide: 60 cents do not reach it
        LipsAndSlides y = Check.deskOf("desk cents 60 highest 8;slide base 10 long 999 step 6;");
        CHECK.due("II place 6 is so flat", y.off(0, 34, 4, 6), -61);
        CHECK.due("II place 5 is so flat", y.off(0, 34, 4, 5), -51);
        CHECK.due("II so that has six WAYS", y.ways(0, 34), 6);
    }

    private static void waysByPartialThenSetting() {
        // settings 0 to 3 are alike; 4 to 7 are 386 flat, so partial 5 with them is as partial 4 without
        LipsAndSlides x = Check.deskOf(FIRST + "horn base 10 long 500 valves 0 0 125 draws 0;");
        CHECK.due("II eight WAYS", x.ways(0, 34), 8);
        for (int k = 0; k < 8; k++) {
            CHECK.due("II partial of WAY " + k, x.way(0, 34, k, 0), k < 4 ? 4 : 5);
            CHECK.due("II SETTING of WAY " + k, x.way(0, 34, k, 1), k);
        }
        // a lower SETTING of a higher partial comes behind
        LipsAndSlides y = Check.deskOf(FIRST + "slide base 3 long 600 step 37;");
        CHECK.due("II 31 by partial 6, place 3, or 7, place 6", y.ways(0, 31), 2);
        for (int pitch = 0; pitch <= 60; pitch++) {
            for (int k = 1; k < y.ways(0, pitch); k++) {
                int ahead = y.way(0, pitch, k - 1, 0) * 8 + y.way(0, pitch, k - 1, 1);
                CHECK.holds("II WAYS of " + pitch + " in order", ahead < y.way(0, pitch, k, 0) * 8 + y.way(0, pitch, k, 1));
            }
        }
    }

    private static void moves() {
        LipsAndSlides x = Check.deskOf(FIRST + BUGLE + SLACK_HORN + SLACK_SLIDE);
        CHECK.due("II MOVE of a bugle", x.move(0, 0, 0), 0);
        for (int a = 0; a < 8; a++) {
            for (int b = 0; b < 8; b++) {
                int unlike = (a % 2 == b % 2 ? 0 : 1) + (a / 2 % 2 == b / 2 % 2 ? 0 : 1) + (a / 4 == b / 4 ? 0 : 1);
                CHECK.due("II MOVE of a horn " + a + " " + b, x.move(1, a, b), unlike);
                CHECK.due("II MOVE of a slide " + a + " " + b, x.move(2, a, b), a == 7 || b == 7 ? -2 : Math.max(a, b) - Math.min(a, b));
            }
        }
    }

    // ---- III

    private static LipsAndSlides one(String brass, int quick, String part) {
        return Check.deskOf(FIRST + brass + "player 0 quick " + quick + " air 30 lips 999;part;" + part);
    }

    private static void handsAreQuickEnough() {
        // of seven places that are all WAYS: so many pairs are no more than 0 .. 6 apart; of eight SETTINGS 0 .. 3
        int[] pairs = {7, 19, 29, 37, 43, 47, 49, 49, 49};
        int[] valves = {8, 32, 56, 64, 64, 64, 64, 64, 64};
        for (int quick = 0; quick <= 4; quick++) {
            for (int beats = 1; beats * quick <= 8 && beats <= 9; beats++) {
                String two = "tone 34 for " + beats + ";tone 34 for 9;";
                CHECK.due("III quick " + quick + " for " + beats, one(SLACK_SLIDE, quick, two).many(0, 0), pairs[quick * beats]);
                CHECK.due("III horn, " + quick + " for " + beats, one(SLACK_HORN, quick, two).many(0, 0), valves[quick * beats]);
            }
        }
        // all beats from the beginning to the beginning: the TONE's own and those of all rests between
        CHECK.due("III 1 and 2 of a rest", one(SLACK_SLIDE, 1, "tone 34 for 1;rest 2;tone 34 for 1;").many(0, 0), pairs[3]);
        CHECK.due("III 1, 1 and 2", one(SLACK_SLIDE, 1, "tone 34 for 1;rest 1;rest 2;tone 34 for 1;").many(0, 0), pairs[4]);
        CHECK.due("III rests outside", one(SLACK_SLIDE, 1, "rest 9;tone 34 for 1;tone 34 for 1;rest 9;").many(0, 0), pairs[1]);
        CHECK.due("III one TONE alone", one(SLACK_SLIDE, 0, "rest 1;tone 34 for 1;rest 1;").many(0, 0), 7);
    }

    private static void slursOfPartials() {
        // partials 2 .. 8 of the bugle
        int[] pitch = {22, 29, 34, 38, 41, 44, 46};
        for (int a = 0; a < 7; a++) {
            for (int b = 0; b < 7; b++) {
                String second = ";tone " + pitch[b] + " for 1;";
                String first = "tone " + pitch[a] + " for 1";
                int may = a != 5 && b != 5 && Math.abs(a - b) <= 1 ? 1 : 0;
                int alone = a != 5 && b != 5 ? 1 : 0;
                CHECK.due("III slurred " + first + second, one(BUGLE, 0, first + " slurred" + second).plays(0, 0), may);
                CHECK.due("III not slurred " + first + second, one(BUGLE, 0, first + second).plays(0, 0), alone);
                CHECK.due("III a rest between " + first, one(BUGLE, 0, first + " slurred;rest 1" + second).plays(0, 0), alone);
            }
        }
        CHECK.due("III the last one slurred", one(BUGLE, 0, "tone 22 for 1;tone 46 for 1 slurred;").plays(0, 0), 1);
        CHECK.due("III slurred to a rest", one(BUGLE, 0, "tone 22 for 1 slurred;rest 1;").plays(0, 0), 1);
    }

    private static void slursOfSlides() {
        // 27 by partial 4 in place 0, or 5 in place 4; 30 by 5 in place 1; 29 by 5 in place 2
        String slide = "slide base 3 long 600 step 37;";
        CHECK.due("III unlike partials, MOVE 1", one(slide, 9, "tone 27 for 1 slurred;tone 30 for 1;").many(0, 0), 2);
        CHECK.due("III unlike partials, MOVE 2", one(slide, 9, "tone 27 for 1 slurred;tone 29 for 1;").many(0, 0), 1);
        CHECK.due("III a rest between", one(slide, 9, "tone 27 for 1 slurred;rest 1;tone 29 for 1;").many(0, 0), 2);
        CHECK.due("III one partial, any MOVE", one(SLACK_SLIDE, 9, "tone 34 for 1 slurred;tone 34 for 1;").many(0, 0), 49);
        // unlike partials on a step of 0: places 0 or 1 apart; on a horn any valves
        CHECK.due("III all places", one(SLACK_SLIDE, 9, "tone 34 for 1 slurred;tone 38 for 1;").many(0, 0), 19);
        CHECK.due("III hands bind still", one(SLACK_SLIDE, 0, "tone 34 for 1 slurred;tone 38 for 1;").many(0, 0), 7);
        CHECK.due("III all valves", one(SLACK_HORN, 9, "tone 34 for 1 slurred;tone 38 for 1;").many(0, 0), 64);
        CHECK.due("III two partials", one(SLACK_HORN, 9, "tone 34 for 1 slurred;tone 41 for 1;").many(0, 0), 0);
    }

    private static void smears() {
        // 34 by (4, 0), 33 by (4, 2): one partial, one valve
        String horn = "horn base 10 long 500 valves 61 30 95 draws 0;";
        int[][] want = {{1, 0, 1}, {0, 0, 1}, {0, 0, 1}};
        String[] part = {"tone 34 for 1 slurred;tone 33 for 1;", "tone 34 for 1;tone 33 for 1;",
            "tone 34 for 1 slurred;rest 1;tone 33 for 1;"};
        for (int n = 0; n < part.length; n++) {
            for (int what = 0; what < 3; what++) {
                CHECK.due("III slurs " + what + " of " + part[n], one(horn, 9, part[n]).slurs(0, 0, what), want[n][what]);
            }
        }
        CHECK.due("III no MOVE, no SMEAR", one(horn, 9, "tone 34 for 1 slurred;tone 34 for 1;").slurs(0, 0, 0), 0);
        CHECK.due("III unlike partials, no SMEAR", one(BUGLE, 9, "tone 34 for 1 slurred;tone 38 for 1;").slurs(0, 0, 0), 0);
    }

    private static void bestOfSeveral() {
        // least COST ahead of least cents: 31 by (4, 3) is off 12, by (4, 4) off 0
        String horn = "horn base 10 long 500 valves 61 30 95 draws 20;";
        LipsAndSlides x = one(horn, 9, "tone 32 for 1;tone 31 for 1;");
        CHECK.due("III least COST", x.cost(0, 0), 1);
        CHECK.due("III though off by more", x.sour(0, 0), 12);
        // least cents ahead of the least row
        CHECK.due("III the nearer WAY", one(horn, 9, "tone 31 for 1;").chosen(0, 0, 0, 2), 1);
        // the least row of WAYS, TONE 0 first
        LipsAndSlides y = one(SLACK_HORN, 9, "tone 34 for 1;".repeat(16));
        for (int i = 0; i < 16; i++) {
            CHECK.due("III the least row, " + i, y.chosen(0, 0, i, 2), 0);
        }
        CHECK.due("III a PART of rests alone", one(BUGLE, 0, "rest 1;").cost(0, 0), 0);
        bestRows();
    }

    private static void bestIs(String part, int cost, int sour, int... ways) {
        // places are 0, 10, 20, 30, 41, 51, 61 flat: 34 is in places 0 .. 4, 51 in 1 .. 6, 33 in 6 alone
        LipsAndSlides x = Check.deskOf("desk cents 45 highest 12;slide base 10 long 999 step 6;player 0 quick 9 air 30 lips 999;part;"
                + part);
        CHECK.due("III COST of " + part, x.cost(0, 0), cost);
        CHECK.due("III cents of " + part, x.sour(0, 0), sour);
        int next = 0;
        for (int i = 0; i < x.tones(0); i++) {
            boolean rest = x.tone(0, i, 0) == -1;
            CHECK.due("III WAY of TONE " + i + " of " + part, x.chosen(0, 0, i, 2), rest ? -1 : ways[next]);
            next += rest ? 0 : 1;
        }
    }

    private static void bestRows() {
        String a = "tone 34 for 1;";
        String b = "tone 33 for 1;";
        String c = "tone 51 for 1;";
        bestIs(c, 0, 0, 4);
        bestIs(b + a + b, 4, 119, 0, 4, 0);
        bestIs(a + a + b, 2, 121, 4, 4, 0);
        bestIs(a + a + "rest 1;" + b + a + a, 4, 203, 4, 4, 0, 4, 4);
        bestIs(c + b, 0, 49, 5, 0);
        // in places 1, 2, 3 and 4 the two are off by 51 together: the least row of WAYS
        bestIs(a + c, 0, 51, 1, 0);
        bestIs(c + a, 0, 51, 0, 1);
        bestIs(c + a + c + a, 0, 102, 0, 1, 0, 1);
        bestIs(a + c + "rest 2;" + a + c, 0, 102, 1, 0, 1, 0);
    }

    private static void movedWithinPitches() {
        // partials 2 .. 8 of base 36 are 48, 55, 60 ..; of base 0 12, 19, 24 ..
        int[][] up = {{47, -1}, {48, 0}, {36, 1}, {43, 1}, {60, 0}, {49, -1}};
        for (int[] w : up) {
            LipsAndSlides x = one("bugle base 36 long 500;", 0, "tone " + w[0] + " for 1;");
            CHECK.due("III moved " + w[0], x.moved(0, 0), w[1]);
            CHECK.due("III put " + w[0], x.put(0, 0, 0), w[1] == 1 ? 12 : w[1]);
        }
        // an octave above 48 is 60, which is a PITCH; above 52 it is 64, partial 5, but none
        LipsAndSlides top = one("bugle base 36 long 500;", 0, "tone 60 for 1 slurred;tone 48 for 1 slurred;tone 60 for 1;");
        CHECK.due("III 48 up is 60", top.moved(0, 0), 1);
        CHECK.due("III the first stays", top.put(0, 0, 0), 0);
        CHECK.due("III so the second goes up", top.put(0, 0, 1), 12);
        CHECK.due("III the third stays", top.put(0, 0, 2), 0);
        CHECK.due("III 52 up is 64", one("bugle base 36 long 500;", 0, "tone 52 for 1;").moved(0, 0), -1);
        lowest();
    }

    private static void lowest() {
        String man = "player 0 quick 9 air 30 lips 999;";
        LipsAndSlides x = Check.deskOf("desk cents 1 highest 2;bugle base 0 long 100;" + man
                + "part;tone 24 for 1;part;tone 12 for 1;part;tone 0 for 1;");
        CHECK.due("III 24 down is 12", x.put(0, 0, 0), -12);
        CHECK.due("III 12 as it is", x.put(0, 1, 0), 0);
        CHECK.due("III 0 up is 12", x.put(0, 2, 0), 12);
        CHECK.due("III shift down", x.shift(0, 0), -12);
        CHECK.due("III no shift", x.shift(0, 1), 0);
        CHECK.due("III shift up", x.shift(0, 2), 12);
        // one valve is 3462 * 106 / 306 = 1199 flat: 0 has a WAY, and -1 would have one if it were a PITCH
        LipsAndSlides y = Check.deskOf("desk cents 60 highest 2;horn base 0 long 100 valves 106 0 120 draws 0;" + man
                + "part;tone 12 for 1;part;tone 11 for 1;part;tone 0 for 1 slurred;tone 12 for 1;");
        CHECK.due("III 0 is the least PITCH that has a WAY", y.range(0, 0), 0);
        CHECK.due("III FLAT for -1", y.flat(0, 4), 1298);
        CHECK.due("III 12 as it is", y.moved(0, 0), 0);
        CHECK.due("III 11 down would be -1", y.moved(0, 1), -1);
        CHECK.due("III 11 is shifted to 12", y.shift(0, 1), 1);
        // by quick 0 no valve moves between 0 and 12: the second goes down to 0, as 0 can't
        y.train(0, 1, 0);
        CHECK.due("III 12 down is 0", y.moved(0, 2), 1);
        CHECK.due("III the first stays", y.put(0, 2, 0), 0);
        CHECK.due("III the second goes down", y.put(0, 2, 1), -12);
    }

    // ---- IV

    private static LipsAndSlides breather(int air, String part) {
        return Check.deskOf(FIRST + BUGLE + "player 0 quick 9 air " + air + " lips 999;part;" + part);
    }

    private static void air() {
        String nine = "tone 34 for 9;";
        int[][] want = {{9, 0, -1}, {8, -1, 0}, {18, 0, -1}, {17, -1, 1}, {27, 0, -1}, {26, -1, 2}};
        for (int n = 0; n < want.length; n++) {
            LipsAndSlides x = breather(want[n][0], nine.repeat(n / 2 + 1));
            CHECK.due("IV air " + want[n][0], x.breaths(0, 0), want[n][1]);
            CHECK.due("IV choked by " + want[n][0], x.choked(0, 0), want[n][2]);
        }
        // the greatest and the least air
        CHECK.due("IV 30 beats by air 30", breather(30, nine.repeat(3) + "tone 34 for 3;").choked(0, 0), -1);
        CHECK.due("IV 31 beats by air 30", breather(30, nine.repeat(3) + "tone 34 for 4;").choked(0, 0), 3);
        CHECK.due("IV one by air 1", breather(1, "tone 34 for 1;").choked(0, 0), -1);
        CHECK.due("IV two by air 1", breather(1, "tone 34 for 2;").choked(0, 0), 0);
        // a rest is a breath, of any length; at first one has just breathed
        CHECK.due("IV a rest between", breather(9, nine + "rest 1;" + nine).breaths(0, 0), 0);
        CHECK.due("IV a rest ahead changes nothing", breather(9, "rest 9;" + nine).breaths(0, 0), 0);
        // at a mark one may breathe: behind the TONE, not ahead of it
        CHECK.due("IV a mark behind the first", breather(9, "tone 34 for 9 breath;" + nine).marks(0, 0), 1);
        CHECK.due("IV a mark behind the last", breather(9, nine + "tone 34 for 9 breath;").marks(0, 0), -1);
        // rests behind one another take no air, be they longer than it
        CHECK.due("IV long rests", breather(1, "rest 9;rest 9;tone 34 for 1;rest 9;rest 9;tone 34 for 1;rest 9;rest 1;").breaths(0, 0), 0);
        CHECK.due("IV long rests, choked", breather(1, "rest 9;rest 9;tone 34 for 1;rest 9;rest 9;tone 34 for 2;").choked(0, 0), 5);
    }

    private static void lips() {
        // of base 10: partials 2 .. 12, with OFF up to 51
        int[] pitch = {22, 29, 34, 38, 41, 44, 46, 48, 50, 51, 53};
        for (int partial = 2; partial <= 12; partial++) {
            LipsAndSlides x = Check.deskOf("desk cents 60 highest " + partial + ";" + BUGLE + MAN + "part;tone "
                    + pitch[partial - 2] + " for 7;");
            CHECK.due("IV its partial", x.chosen(0, 0, 0, 0), partial);
            CHECK.due("IV LOAD of partial " + partial, x.load(0, 0, 0), 7 * Math.max(1, partial - 3));
        }
        // a rest takes off twice its beats: 9 less 8, less 10 is 0 at least
        LipsAndSlides y = Check.deskOf(FIRST + BUGLE + MAN + "part;tone 22 for 9;rest 4;tone 22 for 1;rest 1;rest 1;tone 22 for 3;");
        int[] want = {9, 1, 2, 0, 0, 3};
        for (int i = 0; i < want.length; i++) {
            CHECK.due("IV LOAD behind " + i, y.load(0, 0, i), want[i]);
        }
        LipsAndSlides z = Check.deskOf(FIRST + BUGLE + MAN + "part;rest 9;tone 22 for 3;rest 2;tone 22 for 1;");
        int[] from = {0, 3, 0, 1};
        for (int i = 0; i < from.length; i++) {
            CHECK.due("IV LOAD, at first 0, behind " + i, z.load(0, 0, i), from[i]);
        }
    }

    private static LipsAndSlides group(String part, int... airs) {
        StringBuilder text = new StringBuilder(FIRST + BUGLE);
        for (int a : airs) {
            text.append("player 0 quick 0 air ").append(a).append(" lips 0;");
        }
        return Check.deskOf(text + "part;" + part);
    }

    private static void doubles() {
        // one alone leaves out none, and marks do not count
        LipsAndSlides alone = group("tone 34 for 4 breath;tone 34 for 4;", 8, 7);
        CHECK.due("IV one, air does", alone.doubles(1, 0), 0);
        CHECK.due("IV one, air does not, though there is a mark", alone.doubles(2, 0), -1);
        CHECK.due("IV alone at a mark he could", alone.breaths(1, 0), 1);
        // not all: two of air 3 can't leave out 4 beats together
        CHECK.due("IV not all", group("tone 34 for 4;", 3, 3).doubles(3, 0), -1);
        CHECK.due("IV one of two", group("tone 34 for 4;", 3, 4).doubles(3, 0), 1);
        // by one of them alone, so three of air 3 can't either
        CHECK.due("IV by one of three alone", group("tone 34 for 4;", 3, 3, 4).doubles(7, 0), -1);
        CHECK.due("IV one of three", group("tone 34 for 4;", 3, 4, 4).doubles(7, 0), 1);
        // who leaves one out has breathed behind it
        LipsAndSlides x = group("tone 34 for 4;tone 34 for 4;", 4, 8);
        CHECK.due("IV breathed behind it", x.doubles(3, 0), 1);
        // nobody ahead of PLAYERS, TONE 0 first: he plays the first one
        CHECK.due("IV nobody ahead", x.leaves(3, 0, 0), -1);
        CHECK.due("IV then he", x.leaves(3, 0, 1), 0);
        LipsAndSlides y = group("tone 34 for 4;tone 34 for 4;", 4, 4);
        CHECK.due("IV both", y.doubles(3, 0), 2);
        CHECK.due("IV the least PLAYER first", y.leaves(3, 0, 0), 0);
        CHECK.due("IV the other one then", y.leaves(3, 0, 1), 1);
        // rests do count
        CHECK.due("IV a rest", group("tone 34 for 4;rest 1;tone 34 for 4;", 4, 4).doubles(3, 0), 0);
        // hands and lips aside: nobody has a WAY of 23, nor lips
        CHECK.due("IV no WAY", group("tone 23 for 4;", 4).doubles(1, 0), 0);
        eachOfThree();
        CHECK.due("IV all of 16 by turns", group("tone 34 for 1;".repeat(16), 1, 1).doubles(3, 0), 16);
        CHECK.due("IV by turns, 0 first", group("tone 34 for 1;".repeat(16), 1, 1).leaves(3, 0, 14), 0);
        CHECK.due("IV by turns, 1 last", group("tone 34 for 1;".repeat(16), 1, 1).leaves(3, 0, 15), 1);
    }

    private static void eachOfThree() {
        // one of three has air 2: he plays two, leaves one out, plays two; behind a rest it begins anew
        int[] want = {-1, -1, 1, -1, -1, 1, -1, -1, -1, 1, -1, -1, 1};
        String six = "tone 34 for 1;".repeat(6);
        for (int who = 0; who < 3; who++) {
            int[] airs = {30, 30, 30};
            airs[who] = 2;
            LipsAndSlides x = group(six + "rest 1;" + six, airs);
            CHECK.due("IV one of three has to leave out", x.doubles(7, 0), 4);
            for (int i = 0; i < want.length; i++) {
                CHECK.due("IV " + who + " leaves out " + i, x.leaves(7, 0, i), want[i] == 1 ? who : -1);
            }
            // what he played ahead of the rest does not count behind it: he leaves out the last of three, not the first
            LipsAndSlides z = group("tone 34 for 1;".repeat(5) + "rest 1;" + "tone 34 for 1;".repeat(3), airs);
            for (int i = 0; i < 9; i++) {
                CHECK.due("IV " + who + " leaves out " + i + " of 9", z.leaves(7, 0, i), i == 2 || i == 8 ? who : -1);
            }
            // a TONE behind a rest that is too long for him
            LipsAndSlides y = group("tone 34 for 2;rest 1;tone 34 for 3;", airs);
            CHECK.due("IV " + who + " leaves out the last", y.leaves(7, 0, 2), who);
            CHECK.due("IV but not the first", y.leaves(7, 0, 0), -1);
            CHECK.due("IV nor the rest", y.leaves(7, 0, 1), -1);
            CHECK.due("IV one alone", y.doubles(1 << who, 0), -1);
            CHECK.due("IV one with another", y.doubles(1 << who | 1 << (who + 1) % 3, 0), 1);
        }
        // nobody, 0, 1, 2: all three have to breathe within three beats behind the first two
        LipsAndSlides z = group("tone 34 for 1;".repeat(7), 4, 4, 4);
        int[] order = {-1, -1, 0, 1, 2, -1, -1};
        for (int i = 0; i < order.length; i++) {
            CHECK.due("IV the first order, " + i, z.leaves(7, 0, i), order[i]);
        }
    }

    // ---- V

    private static int draw(long seed, int nth) {
        java.math.BigInteger x = java.math.BigInteger.valueOf(seed);
        for (int n = 0; n < nth; n++) {
            x = x.multiply(java.math.BigInteger.valueOf(1103515245)).add(java.math.BigInteger.valueOf(12345))
                    .mod(java.math.BigInteger.valueOf(2147483648L));
        }
        return x.divide(java.math.BigInteger.valueOf(65536)).mod(java.math.BigInteger.valueOf(100)).intValue();
    }

    private static void drawsFromSeeds() {
        // 34 by 4, off 0: below 8; 38 by 5, off -14: below 24; 29 by 3, off 2: below 8
        int[][] tones = {{34, 8}, {38, 24}, {29, 8}, {22, 4}, {46, 16}};
        for (int[] t : tones) {
            LipsAndSlides x = Check.deskOf(FIRST + BUGLE + MAN + "part;rest 1;tone " + t[0] + " for 1;");
            int just = 0;
            int justNot = 0;
            for (int seed = 0; seed < 250; seed++) {
                int drawn = draw(seed, 1);
                CHECK.due("V " + t[0] + " from " + seed, x.cracks(seed, 0, 0), drawn < t[1] ? 1 : 0);
                just += drawn == t[1] - 1 ? 1 : 0;
                justNot += drawn == t[1] ? 1 : 0;
            }
            CHECK.holds("V draws just below and just not below are met", just > 0 && justNot > 0);
        }
        LipsAndSlides y = Check.deskOf(FIRST + BUGLE + MAN + "part;tone 34 for 1;rest 1;tone 38 for 1;rest 2;tone 46 for 1;");
        int[] below = {8, 24, 16};
        for (int seed : new int[] {0, 1, 2, 3, 65535, 65536, 1 << 30, 1999999999, 2000000000}) {
            int cracks = 0;
            int first = -1;
            for (int n = 2; n >= 0; n--) {
                boolean is = draw(seed, n + 1) < below[n];
                cracks += is ? 1 : 0;
                first = is ? 2 * n : first;
            }
            CHECK.due("V cracks from " + seed, y.cracks(seed, 0, 0), cracks);
            CHECK.due("V first crack from " + seed, y.cracked(seed, 0, 0), first);
        }
    }
}
