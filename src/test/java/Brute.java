import java.util.ArrayList;
import java.util.List;
import java.util.Random;

/**
 * A desk made at random, and what the document says of it, reckoned by trying everything.
 * It shares no code with the class and is slow on purpose.
 */
final class Brute {
    static final int[] PARTIALS = {1200, 1902, 2400, 2786, 3102, 3369, 3600, 3804, 3986, 4151, 4302};

    static final class Horn {
        int kind;
        int base;
        int length;
        int[] valves = new int[3];
        int draws;

        int settings() {
            return kind == 0 ? 1 : kind == 1 ? 8 : 7;
        }
    }

    static final class Man {
        int horn;
        int quick;
        int air;
        int lips;
    }

    static final class Note {
        int pitch;
        int beats;
        boolean slurred;
        boolean breath;

        boolean rest() {
            return pitch < 0;
        }
    }

    int cents;
    int highest;
    List<Horn> horns = new ArrayList<>();
    List<Man> men = new ArrayList<>();
    List<List<Note>> parts = new ArrayList<>();

    /** A desk whose parts mostly can be played, so that the answers differ. */
    static Brute random(Random r, int mostNotes) {
        Brute d = new Brute();
        d.cents = r.nextInt(3) == 0 ? 1 + r.nextInt(60) : 10 + r.nextInt(30);
        d.highest = 2 + r.nextInt(11);
        int horns = r.nextInt(12) == 0 ? 0 : 1 + r.nextInt(4);
        for (int i = 0; i < horns; i++) {
            d.horns.add(randomHorn(r));
        }
        int men = horns == 0 ? 0 : r.nextInt(5);
        if (horns > 0 && r.nextInt(20) == 0) {
            men = 9;
        }
        for (int i = 0; i < men; i++) {
            Man m = new Man();
            m.horn = r.nextInt(horns);
            m.quick = r.nextInt(10) == 0 ? 9 : r.nextInt(4);
            m.air = 1 + r.nextInt(r.nextBoolean() ? 30 : 12);
            m.lips = r.nextInt(r.nextBoolean() ? 999 : 40);
            d.men.add(m);
        }
        int parts = r.nextInt(4);
        for (int p = 0; p < parts; p++) {
            List<Note> notes = new ArrayList<>();
            int n = r.nextInt(mostNotes + 1);
            int horn = horns == 0 ? -1 : r.nextInt(horns);
            for (int i = 0; i < n; i++) {
                notes.add(d.randomNote(r, horn));
            }
            d.parts.add(notes);
        }
        return d;
    }

    /** Long parts of short tones and players with little air, for doubles and breaths. */
    static Brute randomAir(Random r) {
        Brute d = random(r, 0);
        d.horns.clear();
        d.men.clear();
        d.parts.clear();
        d.horns.add(randomHorn(r));
        for (int i = 0; i < 4; i++) {
            Man m = new Man();
            m.air = 2 + r.nextInt(9);
            d.men.add(m);
        }
        List<Note> notes = new ArrayList<>();
        for (int i = 0; i < 16; i++) {
            Note t = new Note();
            t.pitch = r.nextInt(16) == 0 ? -1 : r.nextInt(61);
            t.beats = 1 + r.nextInt(2);
            t.breath = t.pitch >= 0 && r.nextInt(3) > 0;
            notes.add(t);
        }
        d.parts.add(notes);
        return d;
    }

    private static Horn randomHorn(Random r) {
        Horn h = new Horn();
        h.kind = r.nextInt(3);
        h.base = r.nextInt(5) == 0 ? r.nextInt(41) : 6 + r.nextInt(14);
        h.length = 100 + r.nextInt(900);
        if (h.kind == 1) {
            if (r.nextInt(3) == 0) {
                for (int i = 0; i < 3; i++) {
                    h.valves[i] = r.nextInt(401);
                }
            } else {
                h.valves[0] = h.length * 122 / 1000;
                h.valves[1] = h.length * 59 / 1000;
                h.valves[2] = h.length * 189 / 1000;
            }
            h.draws = r.nextInt(61);
        } else if (h.kind == 2) {
            h.valves[0] = r.nextInt(3) == 0 ? r.nextInt(101) : Math.min(100, h.length * 63 / 1000);
        }
        return h;
    }

    private Note randomNote(Random r, int horn) {
        Note t = new Note();
        t.beats = r.nextInt(4) == 0 ? 1 + r.nextInt(9) : 1 + r.nextInt(3);
        if (r.nextInt(6) == 0) {
            t.pitch = -1;
            return t;
        }
        t.pitch = r.nextInt(61);
        // pitches that can be played are sought, as most others make a part idle
        for (int k = 0; k < 40 && horn >= 0 && waysOf(horn, t.pitch, cents).isEmpty(); k++) {
            t.pitch = r.nextInt(61);
        }
        if (r.nextInt(12) == 0) {
            t.pitch = r.nextInt(61);
        }
        t.slurred = r.nextInt(3) == 0;
        t.breath = r.nextInt(3) == 0;
        return t;
    }

    String text() {
        StringBuilder s = new StringBuilder("desk cents " + cents + " highest " + highest + ";");
        for (Horn h : horns) {
            String begin = " base " + h.base + " long " + h.length;
            if (h.kind == 0) {
                s.append("bugle").append(begin);
            } else if (h.kind == 1) {
                s.append("horn").append(begin).append(" valves ").append(h.valves[0]).append(' ').append(h.valves[1])
                        .append(' ').append(h.valves[2]).append(" draws ").append(h.draws);
            } else {
                s.append("slide").append(begin).append(" step ").append(h.valves[0]);
            }
            s.append(";\n");
        }
        for (Man m : men) {
            s.append("player ").append(m.horn).append(" quick ").append(m.quick).append(" air ").append(m.air)
                    .append(" lips ").append(m.lips).append(";");
        }
        for (List<Note> part : parts) {
            s.append("part;");
            for (Note t : part) {
                if (t.rest()) {
                    s.append("rest ").append(t.beats);
                } else {
                    s.append("tone ").append(t.pitch).append(" for ").append(t.beats)
                            .append(t.slurred ? " slurred" : "").append(t.breath ? " breath" : "");
                }
                s.append("; ");
            }
        }
        return s.toString();
    }

    int lines() {
        int n = 1 + horns.size() + men.size() + parts.size();
        for (List<Note> part : parts) {
            n += part.size();
        }
        return n;
    }

    // ---- II

    int flat(int horn, int setting, int draw) {
        Horn h = horns.get(horn);
        int longer = draw;
        if (h.kind == 1) {
            for (int v = 0; v < 3; v++) {
                if ((setting & 1 << v) != 0) {
                    longer += h.valves[v];
                }
            }
        } else if (h.kind == 2) {
            longer += setting * h.valves[0];
        }
        return 3462 * longer / (2 * h.length + longer);
    }

    int off(int horn, int pitch, int partial, int setting, int draw) {
        return 100 * horns.get(horn).base + PARTIALS[partial - 2] - flat(horn, setting, draw) - 100 * pitch;
    }

    int drawn(int horn, int pitch, int partial, int setting) {
        Horn h = horns.get(horn);
        int best = 0;
        if (h.kind == 1 && setting >= 4) {
            for (int d = 0; d <= h.draws; d++) {
                if (Math.abs(off(horn, pitch, partial, setting, d)) < Math.abs(off(horn, pitch, partial, setting, best))) {
                    best = d;
                }
            }
        }
        return best;
    }

    int off(int horn, int pitch, int partial, int setting) {
        return off(horn, pitch, partial, setting, drawn(horn, pitch, partial, setting));
    }

    /** Ways as {partial, setting, off without a sign}. */
    List<int[]> waysOf(int horn, int pitch, int within) {
        List<int[]> ways = new ArrayList<>();
        if (pitch < 0 || pitch > 60) {
            return ways;
        }
        for (int p = 2; p <= highest; p++) {
            for (int s = 0; s < horns.get(horn).settings(); s++) {
                int off = Math.abs(off(horn, pitch, p, s));
                if (off <= within) {
                    ways.add(new int[] {p, s, off});
                }
            }
        }
        return ways;
    }

    int move(int horn, int a, int b) {
        int kind = horns.get(horn).kind;
        if (kind == 0) {
            return 0;
        }
        if (kind == 2) {
            return Math.abs(a - b);
        }
        int n = 0;
        for (int v = 0; v < 3; v++) {
            if ((a >> v & 1) != (b >> v & 1)) {
                n++;
            }
        }
        return n;
    }

    // ---- III

    List<Integer> sounding(int part) {
        List<Integer> at = new ArrayList<>();
        for (int i = 0; i < parts.get(part).size(); i++) {
            if (!parts.get(part).get(i).rest()) {
                at.add(i);
            }
        }
        return at;
    }

    int begins(int part, int i) {
        int sum = 0;
        for (int k = 0; k < i; k++) {
            sum += parts.get(part).get(k).beats;
        }
        return sum;
    }

    boolean tied(int part, int i, int next) {
        return parts.get(part).get(i).slurred && next == i + 1;
    }

    boolean follows(int man, int part, int quick, int i, int next, int[] a, int[] b) {
        int horn = men.get(man).horn;
        int move = move(horn, a[1], b[1]);
        if (move > quick * (begins(part, next) - begins(part, i))) {
            return false;
        }
        if (tied(part, i, next)) {
            if (Math.abs(a[0] - b[0]) > 1) {
                return false;
            }
            if (horns.get(horn).kind == 2 && a[0] != b[0] && move > 1) {
                return false;
            }
        }
        return true;
    }

    /** All plays as rows of ways, in their order; pitches may be put otherwise by a row of octaves. */
    List<int[]> allPlays(int man, int part, int quick, int within, int[] by, int most) {
        List<Integer> at = sounding(part);
        List<List<int[]>> ways = new ArrayList<>();
        for (int k = 0; k < at.size(); k++) {
            ways.add(waysOf(men.get(man).horn, parts.get(part).get(at.get(k)).pitch + by[k], within));
        }
        List<int[]> found = new ArrayList<>();
        goOn(man, part, quick, at, ways, new int[at.size()], 0, found, most);
        return found;
    }

    private void goOn(int man, int part, int quick, List<Integer> at, List<List<int[]>> ways, int[] row, int k,
            List<int[]> found, int most) {
        if (found.size() >= most) {
            return;
        }
        if (k == row.length) {
            found.add(row.clone());
            return;
        }
        for (int w = 0; w < ways.get(k).size(); w++) {
            if (k == 0 || follows(man, part, quick, at.get(k - 1), at.get(k), ways.get(k - 1).get(row[k - 1]),
                    ways.get(k).get(w))) {
                row[k] = w;
                goOn(man, part, quick, at, ways, row, k + 1, found, most);
            }
        }
    }

    boolean canPlay(int man, int part, int quick, int within, int[] by) {
        return !allPlays(man, part, quick, within, by, 1).isEmpty();
    }

    int[] wayAt(int man, int part, int k, int w) {
        int pitch = parts.get(part).get(sounding(part).get(k)).pitch;
        return waysOf(men.get(man).horn, pitch, cents).get(w);
    }

    int costOf(int man, int part, int[] row) {
        int sum = 0;
        for (int k = 0; k + 1 < row.length; k++) {
            sum += move(men.get(man).horn, wayAt(man, part, k, row[k])[1], wayAt(man, part, k + 1, row[k + 1])[1]);
        }
        return sum;
    }

    int sourOf(int man, int part, int[] row) {
        int sum = 0;
        for (int k = 0; k < row.length; k++) {
            sum += wayAt(man, part, k, row[k])[2];
        }
        return sum;
    }

    int[] bestOf(int man, int part, List<int[]> plays) {
        int[] best = null;
        int cost = 0;
        int sour = 0;
        for (int[] row : plays) {
            int c = costOf(man, part, row);
            int s = sourOf(man, part, row);
            if (best == null || c < cost || c == cost && s < sour) {
                best = row;
                cost = c;
                sour = s;
            }
        }
        return best;
    }

    /** The first tone behind which the part, cut there, can't be played any more. */
    int stuck(int man, int part) {
        List<Integer> at = sounding(part);
        List<Note> whole = parts.get(part);
        for (int k = 0; k < at.size(); k++) {
            parts.set(part, whole.subList(0, at.get(k) + 1));
            boolean can = canPlay(man, part, men.get(man).quick, cents, new int[k + 1]);
            parts.set(part, whole);
            if (!can) {
                return at.get(k);
            }
        }
        return -1;
    }

    /** The first row of the fewest octaves, or null. */
    int[] movedRow(int man, int part) {
        int n = sounding(part).size();
        int rows = 1;
        for (int k = 0; k < n; k++) {
            rows *= 3;
        }
        int[] best = null;
        int fewest = 99;
        for (int code = 0; code < rows; code++) {
            int[] by = new int[n];
            int rest = code;
            int number = 0;
            for (int k = n - 1; k >= 0; k--) {
                by[k] = (rest % 3 - 1) * 12;
                rest /= 3;
                number += by[k] == 0 ? 0 : 1;
            }
            if (number < fewest && canPlay(man, part, men.get(man).quick, cents, by)) {
                best = by;
                fewest = number;
            }
        }
        return best;
    }

    int shift(int man, int part) {
        int n = sounding(part).size();
        int best = -100;
        for (int by = -12; by <= 12; by++) {
            int[] all = new int[n];
            java.util.Arrays.fill(all, by);
            boolean nearer = best == -100 || Math.abs(by) < Math.abs(best) || Math.abs(by) == Math.abs(best) && by > best;
            if (nearer && canPlay(man, part, men.get(man).quick, cents, all)) {
                best = by;
            }
        }
        return best;
    }

    // ---- IV

    boolean airDoes(int part, int air, int marks) {
        int used = 0;
        for (int i = 0; i < parts.get(part).size(); i++) {
            Note t = parts.get(part).get(i);
            used = t.rest() ? 0 : used + t.beats;
            if (used > air) {
                return false;
            }
            if ((marks >> i & 1) == 1) {
                used = 0;
            }
        }
        return true;
    }

    int allMarks(int part) {
        int marks = 0;
        for (int i = 0; i < parts.get(part).size(); i++) {
            if (parts.get(part).get(i).breath) {
                marks |= 1 << i;
            }
        }
        return marks;
    }

    int marks(int man, int part) {
        int all = allMarks(part);
        int best = -1;
        for (int set = 0; set <= all; set++) {
            if ((set & ~all) == 0 && airDoes(part, men.get(man).air, set)
                    && (best == -1 || Integer.bitCount(set) < Integer.bitCount(best))) {
                best = set;
            }
        }
        return best;
    }

    int choked(int man, int part) {
        List<Note> whole = parts.get(part);
        for (int i = 0; i < whole.size(); i++) {
            parts.set(part, whole.subList(0, i + 1));
            boolean does = airDoes(part, men.get(man).air, allMarks(part));
            parts.set(part, whole);
            if (!does) {
                return i;
            }
        }
        return -1;
    }

    int[] loads(int man, int part, int[] best) {
        int[] loads = new int[parts.get(part).size()];
        int load = 0;
        int k = 0;
        for (int i = 0; i < loads.length; i++) {
            Note t = parts.get(part).get(i);
            if (t.rest()) {
                load -= 2 * t.beats;
                if (load < 0) {
                    load = 0;
                }
            } else {
                int p = wayAt(man, part, k, best[k])[0];
                load += t.beats * (p - 3 < 1 ? 1 : p - 3);
                k++;
            }
            loads[i] = load;
        }
        return loads;
    }

    /** For each tone the player who leaves it out or -1, the first order of the fewest; null if it can't be. */
    int[] order(int set, int part) {
        List<Integer> who = new ArrayList<>();
        for (int m = 0; m < men.size(); m++) {
            if ((set >> m & 1) == 1) {
                who.add(m);
            }
        }
        int n = parts.get(part).size();
        for (int fewest = 0; fewest <= n; fewest++) {
            int[] row = new int[n];
            if (tryOrder(part, who, row, 0, fewest)) {
                return row;
            }
        }
        return null;
    }

    private boolean tryOrder(int part, List<Integer> who, int[] row, int i, int left) {
        if (i == row.length) {
            return left == 0 && orderDoes(part, who, row, row.length);
        }
        if (!orderDoes(part, who, row, i)) {
            return false;
        }
        row[i] = -1;
        if (tryOrder(part, who, row, i + 1, left)) {
            return true;
        }
        if (left == 0 || who.size() == 1 || parts.get(part).get(i).rest()) {
            return false;
        }
        for (int m : who) {
            row[i] = m;
            if (tryOrder(part, who, row, i + 1, left - 1)) {
                return true;
            }
        }
        return false;
    }

    /** The same for longer parts: only the beats since each one's last breath are borne in mind. */
    int[] longOrder(int set, int part) {
        List<Integer> who = new ArrayList<>();
        for (int m = 0; m < men.size(); m++) {
            if ((set >> m & 1) == 1) {
                who.add(m);
            }
        }
        java.util.Map<String, Integer> known = new java.util.HashMap<>();
        int[] used = new int[who.size()];
        int n = parts.get(part).size();
        int[] row = new int[n];
        int left = fewestFrom(part, who, 0, used, known);
        if (left >= 99) {
            return null;
        }
        for (int i = 0; i < n; i++) {
            for (int k = -1; k < who.size(); k++) {
                int[] then = after(part, who, i, used, k);
                if (then != null && fewestFrom(part, who, i + 1, then, known) + (k < 0 ? 0 : 1) == left) {
                    row[i] = k < 0 ? -1 : who.get(k);
                    left -= k < 0 ? 0 : 1;
                    used = then;
                    break;
                }
            }
        }
        return row;
    }

    private int fewestFrom(int part, List<Integer> who, int i, int[] used, java.util.Map<String, Integer> known) {
        if (i == parts.get(part).size()) {
            return 0;
        }
        String key = i + java.util.Arrays.toString(used);
        Integer had = known.get(key);
        if (had != null) {
            return had;
        }
        int fewest = 99;
        for (int k = -1; k < who.size(); k++) {
            int[] then = after(part, who, i, used, k);
            if (then != null) {
                fewest = Math.min(fewest, fewestFrom(part, who, i + 1, then, known) + (k < 0 ? 0 : 1));
            }
        }
        known.put(key, fewest);
        return fewest;
    }

    /** Beats of each behind tone i, if k leaves it out; null if it can't be. */
    private int[] after(int part, List<Integer> who, int i, int[] used, int k) {
        Note t = parts.get(part).get(i);
        if (k >= 0 && (who.size() == 1 || t.rest())) {
            return null;
        }
        int[] then = new int[used.length];
        for (int m = 0; m < then.length; m++) {
            then[m] = t.rest() || m == k ? 0 : used[m] + t.beats;
            if (then[m] > men.get(who.get(m)).air) {
                return null;
            }
        }
        return then;
    }

    private boolean orderDoes(int part, List<Integer> who, int[] row, int end) {
        for (int m : who) {
            int used = 0;
            for (int i = 0; i < end; i++) {
                Note t = parts.get(part).get(i);
                used = t.rest() || row[i] == m ? 0 : used + t.beats;
                if (used > men.get(m).air) {
                    return false;
                }
            }
        }
        return true;
    }

    // ---- V

    /** Which sounding tones crack. */
    List<Integer> cracking(long seed, int man, int part, int[] best) {
        List<Integer> found = new ArrayList<>();
        java.math.BigInteger x = java.math.BigInteger.valueOf(seed);
        for (int k = 0; k < best.length; k++) {
            x = x.multiply(java.math.BigInteger.valueOf(1103515245)).add(java.math.BigInteger.valueOf(12345))
                    .mod(java.math.BigInteger.valueOf(2147483648L));
            long draw = x.longValue() / 65536 % 100;
            int[] way = wayAt(man, part, k, best[k]);
            if (draw < way[2] + 2 * way[0]) {
                found.add(sounding(part).get(k));
            }
        }
        return found;
    }
}
