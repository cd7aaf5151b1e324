/** Counts wrong answers of one test and prints each of them. */
final class Check {
    private final String test;
    private int wrong;
    private int asked;

    Check(String test) {
        this.test = test;
    }

    void due(String call, long got, long want) {
        asked++;
        if (got != want) {
            wrong++;
            if (wrong <= 40) {
                System.out.println(test + ": " + call + " answered " + got + ", due is " + want);
            }
        }
    }

    void holds(String what, boolean right) {
        due(what, right ? 1 : 0, 1);
    }

    boolean isClean() {
        return wrong == 0;
    }

    /** Ends the run, with exit code 1 if an answer was wrong. */
    void finish() {
        System.out.println(test + ": " + asked + " answers, " + wrong + " of them wrong");
        if (wrong != 0 || asked == 0) {
            System.exit(1);
        }
    }

    /** Puts a text behind the tape; the last feed is cut to the text's length. */
    static void feedText(LipsAndSlides x, String text) {
        int had = x.count(6);
        for (int at = 0; at < text.length(); at += 20) {
            int[] fours = new int[5];
            for (int i = 0; i < 20; i++) {
                int sign = at + i < text.length() ? text.charAt(at + i) & 255 : ' ';
                fours[i / 4] = fours[i / 4] << 8 | sign;
            }
            x.feed(fours[0], fours[1], fours[2], fours[3], fours[4]);
        }
        x.end(had + text.length());
    }

    /** A new object with the desk that a text tells. */
    static LipsAndSlides deskOf(String text) {
        LipsAndSlides x = new LipsAndSlides();
        feedText(x, text);
        int lines = x.desk();
        if (lines < 0) {
            throw new IllegalStateException(text + " has fault " + x.fault(0) + " at " + x.fault(1));
        }
        return x;
    }

    /** A slot with a row of these numbers. */
    static void rowOf(LipsAndSlides x, int slot, int width, long... numbers) {
        x.row(slot, width, numbers.length);
        for (int i = 0; i < numbers.length; i++) {
            x.write(slot, i, numbers[i]);
        }
    }
}
