/** Promises 1 to 8: a new object, the tape, the desk, its faults and what it tells. */
public final class TapeTest {
    private static final Check CHECK = new Check("TapeTest");
    private static final String FIRST = "desk cents 5 highest 8;";

    public static void main(String[] args) {
        newObject();
        feed();
        end();
        desk();
        faultsOfTheFirstLine();
        faultsOfTokens();
        faultsOfBounds();
        faultsOfNumbers();
        faultState();
        brass();
        player();
        tone();
        CHECK.finish();
    }

    private static void newObject() {
        LipsAndSlides x = new LipsAndSlides();
        for (int what = 0; what <= 7; what++) {
            CHECK.due("P1 count(" + what + ")", x.count(what), 0);
        }
        CHECK.due("P1 brass(0, 0)", x.brass(0, 0), -2);
        CHECK.due("P1 player(0, 0)", x.player(0, 0), -2);
        CHECK.due("P1 tones(0)", x.tones(0), -2);
        CHECK.due("P1 shared()", x.shared(), -2);
        CHECK.due("P1 back(0)", x.back(0), -6);
        CHECK.due("P1 NONE", LipsAndSlides.NONE, -1);
    }

    private static void feed() {
        LipsAndSlides x = new LipsAndSlides();
        // "desk cents 5 highest 8;" by hand: each number's highest byte comes first
        CHECK.due("P2 first", x.feed(0x6465736b, 0x2063656e, 0x74732035, 0x20686967, 0x68657374), 20);
        CHECK.due("P2 second", x.feed(0x20383b20, 0x20202020, 0x20202020, 0x20202020, 0x20202020), 40);
        CHECK.due("P2 desk", x.desk(), 1);
        CHECK.due("P2 cents", x.count(0), 5);
        CHECK.due("P2 highest", x.count(1), 8);
        for (int n = 1; n <= 100; n++) {
            CHECK.due("P2 feed " + n, x.feed(-1, 0, 1 << 31, 7, 0x0a0a0a0a), 20 * n);
        }
        CHECK.due("P2 full", x.feed(0, 0, 0, 0, 0), -1);
        CHECK.due("P2 none came", x.count(6), 2000);
        x.end(1981);
        CHECK.due("P2 one too many", x.feed(0, 0, 0, 0, 0), -1);
        CHECK.due("P2 none of it came", x.count(6), 1981);
        x.end(1980);
        CHECK.due("P2 just room", x.feed(0, 0, 0, 0, 0), 2000);
    }

    private static void end() {
        LipsAndSlides x = new LipsAndSlides();
        CHECK.due("P3 of nothing", x.end(0), 0);
        CHECK.due("P3 one of nothing", x.end(1), -1);
        Check.feedText(x, FIRST);
        CHECK.due("P3 one too many", x.end(24), -1);
        CHECK.due("P3 below 0", x.end(-1), -1);
        CHECK.due("P3 far below 0", x.end(Integer.MIN_VALUE), -1);
        CHECK.due("P3 far above", x.end(Integer.MAX_VALUE), -1);
        CHECK.due("P3 nothing happened", x.count(6), 23);
        CHECK.due("P3 all", x.end(23), 23);
        CHECK.due("P3 less", x.end(22), 22);
        CHECK.due("P3 it is less", x.count(6), 22);
        CHECK.due("P3 the sign is gone", x.desk(), -4);
    }

    private static void desk() {
        LipsAndSlides x = new LipsAndSlides();
        CHECK.due("P4 empty", x.desk(), 0);
        Check.feedText(x, FIRST + "bugle base 1 long 100;player 0 quick 0 air 1 lips 0;part;tone 0 for 1;rest 1;");
        CHECK.due("P4 lines", x.desk(), 6);
        CHECK.due("P4 the tape is empty", x.count(6), 0);
        CHECK.due("P4 lines told", x.count(5), 6);
        Check.feedText(x, "desk cents 6 highest 8;part;tone 1 for 99;");
        CHECK.due("P4 fault", x.desk(), -4);
        CHECK.due("P4 the old desk stays", x.count(0), 5);
        CHECK.due("P4 its tones stay", x.tones(0), 2);
        CHECK.due("P4 the tape stays", x.count(6), 42);
        CHECK.due("P4 the fault stays", x.desk(), -4);
        x.end(28);
        CHECK.due("P4 another", x.desk(), 2);
        CHECK.due("P4 cents of another", x.count(0), 6);
        CHECK.due("P4 no brass of the old one", x.brass(0, 0), -2);
        CHECK.due("P4 no player of the old one", x.player(0, 0), -2);
        CHECK.due("P4 no tone of the old one", x.tones(0), 0);
        Check.feedText(x, " \n\n ");
        CHECK.due("P4 blanks alone", x.desk(), 0);
        CHECK.due("P4 there is no desk", x.count(5), 0);
        CHECK.due("P4 nothing of it", x.count(0), 0);
        CHECK.due("P4 no part", x.tones(0), -2);
        Check.feedText(x, "desk\ncents5highest  8 ; part;bugle base 0 long 100;tone 5for 1slurred breath;rest 9;");
        CHECK.due("P4 blanks between", x.desk(), 5);
        CHECK.due("P4 a tone behind a brass", x.tone(0, 0, 0), 5);
    }

    private static void fault(String text, int kind, int place) {
        LipsAndSlides x = new LipsAndSlides();
        Check.feedText(x, text);
        String call = "P5 of " + text.replace('\n', ' ');
        CHECK.due(call + " desk()", x.desk(), -4);
        CHECK.due(call + " fault(0)", x.fault(0), kind);
        CHECK.due(call + " fault(1)", x.fault(1), place);
    }

    /** A fault behind the first line, at a place counted from behind it. */
    private static void faultBehind(String more, int kind, int place) {
        fault(FIRST + more, kind, FIRST.length() + place);
    }

    private static void right(String more, int lines) {
        LipsAndSlides x = new LipsAndSlides();
        Check.feedText(x, FIRST + more);
        CHECK.due("P4 of " + more, x.desk(), lines);
    }

    private static void faultsOfTheFirstLine() {
        fault("part;", 1, 0);
        fault(";", 1, 0);
        fault("  bugle base 1 long 100;", 1, 2);
        fault("5", 1, 0);
        fault("Desk cents 5 highest 8;", 1, 0);
        fault("desks cents 5 highest 8;", 1, 0);
        fault("des cents 5 highest 8;", 1, 0);
        fault("desk", 1, 4);
        fault("desk \n ", 1, 7);
        fault("desk;", 1, 4);
        fault("desk highest 8 cents 5;", 1, 5);
        fault("desk cents;", 1, 10);
        fault("desk cents five highest 8;", 1, 11);
        fault("desk cents 5", 1, 12);
        fault("desk cents 5;", 1, 12);
        fault("desk cents 5 highest 8", 1, 22);
        fault("desk cents 5 highest 8 9;", 1, 23);
        fault("desk cents 0 highest 8;", 2, 11);
        fault("desk cents 61 highest 8;", 2, 11);
        fault("desk cents 60 highest 1;", 2, 22);
        fault("desk cents 1 highest 13;", 2, 21);
        fault("desk cents 0 highest 13;", 2, 11);
        fault("desk cents 61 !", 2, 11);
        fault("desk ! cents 61", 1, 5);
    }

    private static void faultsOfTokens() {
        faultBehind(" desk cents 5 highest 8;", 1, 1);
        faultBehind("tone 3 for 1;", 1, 0);
        faultBehind("rest 1;", 1, 0);
        faultBehind(";", 1, 0);
        faultBehind("part;;", 1, 5);
        faultBehind("part", 1, 4);
        faultBehind("part 5;", 1, 5);
        faultBehind("parts;", 1, 0);
        faultBehind("partz;", 1, 0);
        faultBehind("aparts;", 1, 0);
        faultBehind("tuba base 1 long 100;", 1, 0);
        faultBehind("\tpart;", 1, 0);
        faultBehind("part;\r", 1, 5);
        faultBehind("part;\u00ff", 1, 5);
        faultBehind("part;\u0000", 1, 5);
        faultBehind("part;\u0080", 1, 5);
        faultBehind("part:", 1, 4);
        faultBehind("part;`", 1, 5);
        faultBehind("part;{", 1, 5);
        faultBehind("part;/", 1, 5);
        faultBehind("bugle base 1 long 100 step 5;", 1, 22);
        faultBehind("horn base 1 long 100;", 1, 20);
        faultBehind("horn base 1 long 100 valves 1 2 draws 3;", 1, 32);
        faultBehind("horn base 1 long 100 valves 1 2 3;", 1, 33);
        faultBehind("slide base 1 long 100;", 1, 21);
        faultBehind("slide base 1 long 100 step -1;", 1, 27);
        faultBehind("bugle long 100 base 1;", 1, 6);
        faultBehind("part;tone 5;", 1, 11);
        faultBehind("part;tone 5 for;", 1, 15);
        faultBehind("part;tone 5 for 1 breath slurred;", 1, 25);
        faultBehind("part;tone 5 for 1 slurred slurred;", 1, 26);
        faultBehind("part;tone 5 for 1 breath breath;", 1, 25);
        faultBehind("part;tone for 1;", 1, 10);
        faultBehind("part;rest;", 1, 9);
        faultBehind("part;rest 1 breath;", 1, 12);
        faultBehind("bugle base 1 long 100;player 0 quick 1 air 2;", 1, 44);
        faultBehind("bugle base 1 long 100;player quick 1 air 2 lips 3;", 1, 29);
        right("part;tone 5 for 1 slurred;tone 5 for 1 breath;tone 5 for 1 slurred breath;tone 5 for 1;", 6);
        right("", 1);
    }

    private static void faultsOfBounds() {
        right("bugle base 0 long 100;bugle base 40 long 999;", 3);
        faultBehind("bugle base 41 long 100;", 2, 11);
        faultBehind("bugle base 1 long 99;", 2, 18);
        faultBehind("bugle base 1 long 1000;", 2, 18);
        right("horn base 1 long 100 valves 0 400 0 draws 0;horn base 1 long 100 valves 400 0 400 draws 60;", 3);
        faultBehind("horn base 1 long 100 valves 401 0 0 draws 0;", 2, 28);
        faultBehind("horn base 1 long 100 valves 0 401 0 draws 0;", 2, 30);
        faultBehind("horn base 1 long 100 valves 0 0 401 draws 0;", 2, 32);
        faultBehind("horn base 1 long 100 valves 0 0 0 draws 61;", 2, 40);
        right("slide base 1 long 100 step 0;slide base 1 long 100 step 100;", 3);
        faultBehind("slide base 1 long 100 step 101;", 2, 27);
        String brass = "bugle base 1 long 100;";
        right(brass + "player 0 quick 0 air 1 lips 0;player 0 quick 9 air 30 lips 999;", 4);
        faultBehind(brass + "player 1 quick 0 air 1 lips 0;", 2, 29);
        faultBehind("player 0 quick 0 air 1 lips 0;" + brass, 2, 7);
        faultBehind(brass + "player 0 quick 10 air 1 lips 0;", 2, 37);
        faultBehind(brass + "player 0 quick 1 air 0 lips 0;", 2, 43);
        faultBehind(brass + "player 0 quick 1 air 31 lips 0;", 2, 43);
        faultBehind(brass + "player 0 quick 1 air 1 lips 1000;", 2, 50);
        right("part;tone 0 for 1;tone 60 for 9;rest 1;rest 9;", 6);
        faultBehind("part;tone 61 for 1;", 2, 10);
        faultBehind("part;tone 5 for 0;", 2, 16);
        faultBehind("part;tone 5 for 10;", 2, 16);
        faultBehind("part;rest 0;", 2, 10);
        faultBehind("part;rest 10;", 2, 10);
        fault("desk cents 99999999999999999999 highest 8;", 2, 11);
        fault("desk cents 4294967301 highest 8;", 2, 11);
        fault("desk cents 18446744073709551621 highest 8;", 2, 11);
        LipsAndSlides x = Check.deskOf("desk cents 000000000000000000007 highest 08;");
        CHECK.due("P4 zeros ahead", x.count(0), 7);
    }

    private static void faultsOfNumbers() {
        String brass = "bugle base 1 long 100;";
        String horn = "horn base 1 long 100 valves 0 0 0 draws 0;";
        String slide = "slide base 1 long 100 step 0;";
        right(brass + horn + slide + brass, 5);
        String four = brass + horn + slide + brass;
        faultBehind(four + brass, 3, four.length());
        faultBehind(four + "horn base 99", 3, four.length());
        faultBehind(four + "slide", 3, four.length());
        String man = "player 0 quick 1 air 1 lips 1;";
        String nine = brass + man.repeat(9);
        right(nine, 11);
        faultBehind(nine + " player 9 quick 1 air 1 lips 1;", 3, nine.length() + 1);
        right("part;part;part;", 4);
        faultBehind("part;part;part;part;", 3, 15);
        String sixteen = "part;" + "tone 1 for 1;".repeat(15) + "rest 1;";
        right(sixteen, 18);
        faultBehind(sixteen + "tone 1 for 1;", 3, sixteen.length());
        faultBehind(sixteen + "rest 1;", 3, sixteen.length());
        faultBehind(sixteen + "rest !;", 3, sixteen.length());
        right(sixteen + sixteen + sixteen, 52);
        faultBehind(sixteen + "toned 1 for 1;", 1, sixteen.length());
    }

    private static void faultState() {
        LipsAndSlides x = new LipsAndSlides();
        CHECK.due("P5 ahead of any, 0", x.fault(0), 0);
        CHECK.due("P5 ahead of any, 1", x.fault(1), -1);
        CHECK.due("P5 another what", x.fault(2), -1);
        CHECK.due("P5 what below 0", x.fault(-1), -1);
        Check.feedText(x, "part;");
        x.desk();
        CHECK.due("P5 fault", x.fault(0), 1);
        CHECK.due("P5 place", x.fault(1), 0);
        CHECK.due("P5 another what then", x.fault(2), -1);
        x.end(0);
        CHECK.due("P5 of the latest desk() still", x.fault(0), 1);
        x.desk();
        CHECK.due("P5 none any more", x.fault(0), 0);
        CHECK.due("P5 no place any more", x.fault(1), -1);
    }

    private static void brass() {
        String text = FIRST + "bugle base 40 long 999;slide base 3 long 600 step 37;"
                + "horn base 10 long 500 valves 61 30 95 draws 20;";
        LipsAndSlides x = Check.deskOf(text);
        int[][] want = {{0, 40, 999, 0, 0, 0, 0}, {2, 3, 600, 37, 0, 0, 0}, {1, 10, 500, 61, 30, 95, 20}};
        for (int b = 0; b < 3; b++) {
            for (int what = 0; what < 7; what++) {
                CHECK.due("P6 brass(" + b + ", " + what + ")", x.brass(b, what), want[b][what]);
            }
        }
        CHECK.due("P6 no such brass", x.brass(3, 0), -2);
        CHECK.due("P6 brass below 0", x.brass(-1, 0), -2);
        CHECK.due("P6 no such what", x.brass(0, 7), -2);
        CHECK.due("P6 what below 0", x.brass(0, -1), -2);
        CHECK.due("P6 far what", x.brass(Integer.MAX_VALUE, Integer.MIN_VALUE), -2);
        // rows may be used again for a new desk, but nothing of the horn may be left in the bugle
        Check.feedText(x, text);
        x.desk();
        for (int n = 0; n < 2; n++) {
            Check.feedText(x, FIRST + "bugle base 1 long 100;bugle base 1 long 100;bugle base 1 long 100;");
            x.desk();
            for (int what = 3; what < 7; what++) {
                CHECK.due("P6 nothing left", x.brass(2, what), 0);
            }
        }
    }

    private static void player() {
        LipsAndSlides x = Check.deskOf(FIRST + "bugle base 40 long 999;bugle base 3 long 600;"
                + "player 1 quick 9 air 30 lips 999;player 0 quick 0 air 1 lips 0;");
        int[][] want = {{1, 9, 30, 999}, {0, 0, 1, 0}};
        for (int p = 0; p < 2; p++) {
            for (int what = 0; what < 4; what++) {
                CHECK.due("P7 player(" + p + ", " + what + ")", x.player(p, what), want[p][what]);
            }
        }
        CHECK.due("P7 no such player", x.player(2, 0), -2);
        CHECK.due("P7 player below 0", x.player(-1, 0), -2);
        CHECK.due("P7 no such what", x.player(0, 4), -2);
        CHECK.due("P7 what below 0", x.player(0, -1), -2);
    }

    private static void tone() {
        LipsAndSlides x = Check.deskOf(FIRST + "part;tone 60 for 9 slurred;rest 2;tone 0 for 1 breath;"
                + "tone 7 for 3 slurred breath;part;rest 9;part;");
        int[][] want = {{60, 9, 1, 0, 0}, {-1, 2, 0, 0, 9}, {0, 1, 0, 1, 11}, {7, 3, 1, 1, 12}};
        for (int i = 0; i < 4; i++) {
            for (int what = 0; what < 5; what++) {
                CHECK.due("P8 tone(0, " + i + ", " + what + ")", x.tone(0, i, what), want[i][what]);
            }
        }
        CHECK.due("P8 of the second part", x.tone(1, 0, 4), 0);
        CHECK.due("P8 no such tone", x.tone(0, 4, 0), -2);
        CHECK.due("P8 tone below 0", x.tone(0, -1, 0), -2);
        CHECK.due("P8 of an empty part", x.tone(2, 0, 0), -2);
        CHECK.due("P8 no such part", x.tone(3, 0, 0), -2);
        CHECK.due("P8 part below 0", x.tone(-1, 0, 0), -2);
        CHECK.due("P8 no such what", x.tone(0, 0, 5), -2);
        CHECK.due("P8 what below 0", x.tone(0, 0, -1), -2);
    }
}
