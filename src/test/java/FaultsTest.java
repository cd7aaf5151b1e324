import java.math.BigInteger;
import java.util.ArrayList;
import java.util.HashMap;
import java.util.List;
import java.util.Map;
import java.util.Random;

/** Promises 4 and 5 by texts spoilt at random, read here once more by a table of the lines. */
public final class FaultsTest {
    private static final Check CHECK = new Check("FaultsTest");
    private static final Map<String, String> LINES = new HashMap<>();
    private static final int[] SEEN = new int[4];
    private static final String[] SOUP = {"desk", "cents", "highest", "bugle", "base", "long", "horn", "valves", "draws", "slide",
        "step", "player", "quick", "air", "lips", "part", "tone", "for", "slurred", "breath", "rest", ";", ";", "0", "1", "5",
        "60", "61", "100", "999", "1000", "99999999999", "#", "Z", "\t", "\u00e9"};

    public static void main(String[] args) {
        LINES.put("desk", "cents 1:60 highest 2:12");
        LINES.put("bugle", "base 0:40 long 100:999");
        LINES.put("horn", "base 0:40 long 100:999 valves 0:400 0:400 0:400 draws 0:60");
        LINES.put("slide", "base 0:40 long 100:999 step 0:100");
        LINES.put("player", "B quick 0:9 air 1:30 lips 0:999");
        LINES.put("part", "");
        LINES.put("tone", "0:60 for 1:9 slurred? breath?");
        LINES.put("rest", "1:9");
        for (int seed = 0; seed < 20000 && CHECK.isClean(); seed++) {
            Random r = new Random(seed);
            String text = Brute.random(r, r.nextInt(4) == 0 ? 18 : 4).text();
            for (int n = r.nextInt(3); n > 0; n--) {
                text = spoil(text, r);
            }
            compare(text.length() > 1980 ? text.substring(0, 1980) : text);
        }
        for (int kind = 0; kind < 4; kind++) {
            CHECK.holds("fault " + kind + " is met often", SEEN[kind] > 100);
        }
        CHECK.finish();
    }

    private static String spoil(String text, Random r) {
        int at = r.nextInt(text.length() + 1);
        int end = Math.min(text.length(), at + r.nextInt(5));
        switch (r.nextInt(6)) {
            case 0:
                return text.substring(0, at) + text.substring(end);
            case 1:
                return text.substring(0, at) + SOUP[r.nextInt(SOUP.length)] + text.substring(at);
            case 2:
                return text.substring(0, at) + " " + SOUP[r.nextInt(SOUP.length)] + " " + text.substring(end);
            case 3:
                // whole lines once more, so that there are too many of them
                int semicolon = text.indexOf(';', at);
                int next = text.indexOf(';', semicolon + 1);
                String line = semicolon < 0 || next < 0 ? "part;" : text.substring(semicolon + 1, next + 1);
                return text.substring(0, semicolon + 1) + line.repeat(1 + r.nextInt(9)) + text.substring(semicolon + 1);
            case 4:
                return text.substring(0, at);
            default:
                return text + " " + SOUP[r.nextInt(SOUP.length)];
        }
    }

    private static void compare(String text) {
        LipsAndSlides x = new LipsAndSlides();
        Check.feedText(x, text);
        int[] want = read(text);
        SEEN[want[1]]++;
        int length = x.count(6);
        CHECK.due("desk() of " + text, x.desk(), want[0]);
        CHECK.due("fault(0) of " + text, x.fault(0), want[1]);
        CHECK.due("fault(1) of " + text, x.fault(1), want[2]);
        CHECK.due("count(5) of " + text, x.count(5), Math.max(0, want[0]));
        CHECK.due("count(6) of " + text, x.count(6), want[0] < 0 ? length : 0);
    }

    /** What desk(), fault(0) and fault(1) answer. */
    private static int[] read(String text) {
        List<String> tokens = new ArrayList<>();
        List<Integer> places = new ArrayList<>();
        java.util.regex.Matcher m = java.util.regex.Pattern.compile("[a-z]+|[0-9]+|[^ \n]").matcher(text);
        while (m.find()) {
            tokens.add(m.group());
            places.add(m.start());
        }
        tokens.add("");
        places.add(text.length());
        int at = 0;
        int lines = 0;
        int brasses = 0;
        int players = 0;
        int parts = 0;
        int tones = 0;
        while (at < tokens.size() - 1) {
            String word = tokens.get(at);
            boolean sounds = word.equals("tone") || word.equals("rest");
            if (!LINES.containsKey(word) || word.equals("desk") != (lines == 0) || sounds && parts == 0) {
                return new int[] {-4, 1, places.get(at)};
            }
            brasses += word.equals("bugle") || word.equals("horn") || word.equals("slide") ? 1 : 0;
            players += word.equals("player") ? 1 : 0;
            parts += word.equals("part") ? 1 : 0;
            tones = word.equals("part") ? 0 : tones + (sounds ? 1 : 0);
            if (brasses > 4 || players > 9 || parts > 3 || tones > 16) {
                return new int[] {-4, 3, places.get(at)};
            }
            at++;
            for (String item : (LINES.get(word) + " ;").trim().split(" +")) {
                int kind = fits(item, tokens.get(at), brasses);
                if (kind > 0) {
                    return new int[] {-4, kind, places.get(at)};
                }
                at += kind == 0 ? 1 : 0;
            }
            lines++;
        }
        return new int[] {lines, 0, -1};
    }

    /** 0: the token stands there, -1: it need not, else the fault. */
    private static int fits(String item, String token, int brasses) {
        if (item.endsWith("?")) {
            return item.equals(token + "?") ? 0 : -1;
        }
        boolean number = item.contains(":") || item.equals("B");
        if (!number) {
            return item.equals(token) ? 0 : 1;
        }
        if (token.isEmpty() || !token.chars().allMatch(c -> c >= '0' && c <= '9')) {
            return 1;
        }
        String[] bounds = item.equals("B") ? new String[] {"0", "" + (brasses - 1)} : item.split(":");
        BigInteger value = new BigInteger(token);
        boolean within = value.compareTo(new BigInteger(bounds[0])) >= 0 && value.compareTo(new BigInteger(bounds[1])) <= 0;
        return within ? 0 : 2;
    }
}
