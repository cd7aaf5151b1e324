import java.util.ArrayList;
import java.util.List;
import java.util.Random;

/** Random desks: every answer is compared with one that is found by trying everything. */
public final class OracleTest {
    private static final int DESKS = 700;
    private static final int MOST_PLAYS = 20000;
    private static final Check CHECK = new Check("OracleTest");
    private static int played;
    private static int unplayed;
    private static int left;
    private static int playedChanged;

    public static void main(String[] args) {
        for (int seed = 0; seed < DESKS && CHECK.isClean(); seed++) {
            Random r = new Random(seed);
            Brute d = Brute.random(r, seed % 10 == 0 ? 16 : 6);
            if (d.text().length() > 1980) {
                continue;
            }
            LipsAndSlides x = Check.deskOf(d.text());
            compareAll(x, d, r);
            x.keep(seed % 3);
            for (int n = 0; n < 12; n++) {
                change(x, d, r);
            }
            int before = played;
            compareAll(x, d, r);
            playedChanged += played - before;
            x.back(seed % 3);
            compareDesk(x, Brute.random(new Random(seed), seed % 10 == 0 ? 16 : 6));
            if (!CHECK.isClean()) {
                System.out.println("seed " + seed + ": " + d.text());
            }
        }
        for (int seed = 0; seed < 150 && CHECK.isClean(); seed++) {
            Brute d = Brute.randomAir(new Random(seed));
            LipsAndSlides x = Check.deskOf(d.text());
            compareDoubles(x, d, 0);
            for (int man = 0; man < d.men.size(); man++) {
                int marks = d.marks(man, 0);
                CHECK.due("marks", x.marks(man, 0), marks);
                CHECK.due("breaths", x.breaths(man, 0), marks == -1 ? -1 : Integer.bitCount(marks));
                CHECK.due("choked", x.choked(man, 0), d.choked(man, 0));
            }
        }
        // a comparison that never meets a play, or none, tells nothing
        CHECK.holds("some parts can be played, changed ones too, some can't, some tones are left out",
                played > 100 && playedChanged > 100 && unplayed > 100 && left > 20);
        CHECK.finish();
    }

    private static void compareAll(LipsAndSlides x, Brute d, Random r) {
        compareDesk(x, d);
        compareWays(x, d, r);
        for (int man = 0; man < d.men.size(); man++) {
            for (int part = 0; part < d.parts.size(); part++) {
                comparePlays(x, d, man, part);
                compareOthers(x, d, man, part);
                compareJudged(x, d, man, part, r);
            }
        }
        for (int part = 0; part < d.parts.size(); part++) {
            compareDoubles(x, d, part);
        }
        compareShared(x, d);
        compareHeard(x, d, r);
    }

    /** Promises 47 to 50: the same change of both, small enough that parts can be played still. */
    private static void change(LipsAndSlides x, Brute d, Random r) {
        if (r.nextBoolean() && !d.parts.isEmpty()) {
            int part = r.nextInt(d.parts.size());
            int i = r.nextInt(17);
            boolean is = i < d.parts.get(part).size() && !d.parts.get(part).get(i).rest();
            Brute.Note t = is ? d.parts.get(part).get(i) : new Brute.Note();
            int other = r.nextInt(Math.max(1, d.parts.get(part).size()));
            boolean known = r.nextInt(4) > 0 && is && !d.parts.get(part).get(other).rest();
            int pitch = known ? d.parts.get(part).get(other).pitch : r.nextInt(61);
            CHECK.due("pitch", x.pitch(part, i, pitch), is ? t.pitch : -2);
            t.pitch = pitch;
            boolean slurred = r.nextInt(3) == 0;
            CHECK.due("slur", x.slur(part, i, slurred ? 1 : 0), !is ? -2 : t.slurred ? 1 : 0);
            t.slurred = slurred;
        } else if (r.nextBoolean() && !d.men.isEmpty()) {
            int man = r.nextInt(d.men.size());
            Brute.Man m = d.men.get(man);
            int quick = r.nextInt(4);
            int air = 1 + r.nextInt(30);
            int lips = r.nextInt(60);
            CHECK.due("train 1", x.train(man, 1, quick), m.quick);
            CHECK.due("train 2", x.train(man, 2, air), m.air);
            CHECK.due("train 3", x.train(man, 3, lips), m.lips);
            m.quick = quick;
            m.air = air;
            m.lips = lips;
        } else if (!d.horns.isEmpty()) {
            int horn = r.nextInt(d.horns.size());
            Brute.Horn h = d.horns.get(horn);
            int length = Math.max(100, Math.min(999, h.length + r.nextInt(9) - 4));
            CHECK.due("tune", x.tune(horn, length), h.length);
            h.length = length;
        }
    }

    private static void compareDesk(LipsAndSlides x, Brute d) {
        CHECK.due("count(0)", x.count(0), d.cents);
        CHECK.due("count(1)", x.count(1), d.highest);
        CHECK.due("count(2)", x.count(2), d.horns.size());
        CHECK.due("count(3)", x.count(3), d.men.size());
        CHECK.due("count(4)", x.count(4), d.parts.size());
        CHECK.due("count(5)", x.count(5), d.lines());
        for (int h = 0; h < d.horns.size(); h++) {
            Brute.Horn horn = d.horns.get(h);
            int[] want = {horn.kind, horn.base, horn.length, horn.valves[0], horn.valves[1], horn.valves[2], horn.draws, -2};
            for (int what = 0; what < 8; what++) {
                CHECK.due("brass " + h + " " + what, x.brass(h, what), want[what]);
            }
        }
        for (int m = 0; m < d.men.size(); m++) {
            Brute.Man man = d.men.get(m);
            int[] want = {man.horn, man.quick, man.air, man.lips, -2};
            for (int what = 0; what < 5; what++) {
                CHECK.due("player " + m + " " + what, x.player(m, what), want[what]);
            }
        }
        for (int p = 0; p < d.parts.size(); p++) {
            List<Brute.Note> part = d.parts.get(p);
            CHECK.due("tones", x.tones(p), part.size());
            CHECK.due("beats", x.beats(p), d.begins(p, part.size()));
            java.util.Set<Integer> pitches = new java.util.HashSet<>();
            for (int i = 0; i < part.size(); i++) {
                Brute.Note t = part.get(i);
                int[] want = {t.pitch, t.beats, t.slurred ? 1 : 0, t.breath ? 1 : 0, d.begins(p, i), -2};
                for (int what = 0; what < 6; what++) {
                    CHECK.due("tone " + p + " " + i + " " + what, x.tone(p, i, what), want[what]);
                }
                if (!t.rest()) {
                    pitches.add(t.pitch);
                }
            }
            CHECK.due("pitches", x.pitches(p), pitches.size());
            comparePhrase(x, p, part);
        }
    }

    private static void comparePhrase(LipsAndSlides x, int p, List<Brute.Note> part) {
        int most = 0;
        int first = -1;
        for (int a = 0; a < part.size(); a++) {
            int sum = 0;
            for (int b = a; b < part.size() && !part.get(b).rest(); b++) {
                sum += part.get(b).beats;
            }
            if (sum > most) {
                most = sum;
                first = a;
            }
        }
        CHECK.due("phrase 0", x.phrase(p, 0), most);
        CHECK.due("phrase 1", x.phrase(p, 1), first);
    }

    private static void compareWays(LipsAndSlides x, Brute d, Random r) {
        for (int h = 0; h < d.horns.size(); h++) {
            int n = d.horns.get(h).settings();
            for (int s = -1; s <= 8; s++) {
                boolean is = s >= 0 && s < n;
                CHECK.due("flat", x.flat(h, s), is ? d.flat(h, s, 0) : -2);
                int o = r.nextInt(10) - 1;
                boolean both = is && o >= 0 && o < n;
                CHECK.due("move", x.move(h, s, o), both ? d.move(h, s, o) : -2);
            }
            for (int k = 0; k < 40; k++) {
                int pitch = r.nextInt(63) - 1;
                int p = r.nextInt(13) + 1;
                int s = r.nextInt(9);
                boolean is = pitch >= 0 && pitch <= 60 && p >= 2 && p <= d.highest && s < n;
                CHECK.due("off", x.off(h, pitch, p, s), is ? d.off(h, pitch, p, s) : -100000);
                CHECK.due("drawnOut", x.drawnOut(h, pitch, p, s), is ? d.drawn(h, pitch, p, s) : -2);
            }
            int least = -1;
            int most = -1;
            int with = 0;
            for (int pitch = 0; pitch <= 60; pitch++) {
                List<int[]> ways = d.waysOf(h, pitch, d.cents);
                CHECK.due("ways", x.ways(h, pitch), ways.size());
                for (int k = 0; k < ways.size(); k++) {
                    CHECK.due("way 0", x.way(h, pitch, k, 0), ways.get(k)[0]);
                    CHECK.due("way 1", x.way(h, pitch, k, 1), ways.get(k)[1]);
                }
                CHECK.due("way beyond", x.way(h, pitch, ways.size(), 0), -1);
                if (!ways.isEmpty()) {
                    least = least < 0 ? pitch : least;
                    most = pitch;
                    with++;
                }
            }
            CHECK.due("range 0", x.range(h, 0), least);
            CHECK.due("range 1", x.range(h, 1), most);
            CHECK.due("range 2", x.range(h, 2), least < 0 ? -1 : most - least + 1 - with);
            for (int o = 0; o < d.horns.size(); o++) {
                int both = 0;
                for (int pitch = 0; pitch <= 60; pitch++) {
                    if (!d.waysOf(h, pitch, d.cents).isEmpty() && !d.waysOf(o, pitch, d.cents).isEmpty()) {
                        both++;
                    }
                }
                CHECK.due("common", x.common(h, o), h == o ? -2 : both);
            }
        }
    }

    private static void comparePlays(LipsAndSlides x, Brute d, int man, int part) {
        List<Integer> at = d.sounding(part);
        int[] still = new int[at.size()];
        int quick = d.men.get(man).quick;
        List<int[]> all = d.allPlays(man, part, quick, d.cents, still, MOST_PLAYS);
        if (all.size() >= MOST_PLAYS) {
            return;
        }
        int[] best = d.bestOf(man, part, all);
        if (best == null) {
            unplayed++;
        } else {
            played++;
        }
        CHECK.due("plays", x.plays(man, part), best == null ? 0 : 1);
        CHECK.due("many", x.many(man, part), all.size());
        CHECK.due("cost", x.cost(man, part), best == null ? -1 : d.costOf(man, part, best));
        CHECK.due("sour", x.sour(man, part), best == null ? -1 : d.sourOf(man, part, best));
        for (int i = -1; i <= d.parts.get(part).size(); i++) {
            int k = at.indexOf(i);
            boolean none = best == null || k < 0;
            CHECK.due("chosen 0", x.chosen(man, part, i, 0), none ? -1 : d.wayAt(man, part, k, best[k])[0]);
            CHECK.due("chosen 1", x.chosen(man, part, i, 1), none ? -1 : d.wayAt(man, part, k, best[k])[1]);
            CHECK.due("chosen 2", x.chosen(man, part, i, 2), none ? -1 : best[k]);
            CHECK.due("chosen 3", x.chosen(man, part, i, 3), -2);
        }
        compareSlurs(x, d, man, part, best);
        compareLoads(x, d, man, part, best);
        compareCracks(x, d, man, part, best);
    }

    private static void compareSlurs(LipsAndSlides x, Brute d, int man, int part, int[] best) {
        List<Integer> at = d.sounding(part);
        int[] want = {0, 0, 0};
        for (int k = 0; best != null && k + 1 < best.length; k++) {
            int[] a = d.wayAt(man, part, k, best[k]);
            int[] b = d.wayAt(man, part, k + 1, best[k + 1]);
            boolean tied = d.tied(part, at.get(k), at.get(k + 1));
            int move = d.move(d.men.get(man).horn, a[1], b[1]);
            want[0] += tied && a[0] == b[0] && move > 0 ? 1 : 0;
            want[1] += tied && a[0] != b[0] && a[1] == b[1] ? 1 : 0;
            want[2] += move > 0 ? 1 : 0;
        }
        for (int what = 0; what < 3; what++) {
            CHECK.due("slurs " + what, x.slurs(man, part, what), best == null ? -1 : want[what]);
        }
    }

    private static void compareLoads(LipsAndSlides x, Brute d, int man, int part, int[] best) {
        int n = d.parts.get(part).size();
        int tired = -1;
        int spared = best == null ? -1 : 0;
        int[] loads = best == null ? new int[n] : d.loads(man, part, best);
        for (int i = 0; i < n; i++) {
            CHECK.due("load", x.load(man, part, i), best == null ? -1 : loads[i]);
            if (best != null && tired < 0 && loads[i] > d.men.get(man).lips) {
                tired = i;
            }
            if (tired >= 0 && !d.parts.get(part).get(i).rest()) {
                spared++;
            }
        }
        CHECK.due("load beyond", x.load(man, part, n), -2);
        CHECK.due("tired", x.tired(man, part), tired);
        CHECK.due("spared", x.spared(man, part), spared);
    }

    private static void compareCracks(LipsAndSlides x, Brute d, int man, int part, int[] best) {
        int[] seeds = {0, 1, 77, 2000000000};
        for (int seed : seeds) {
            int clean = 0;
            for (int k = 0; k < 20 && best != null; k++) {
                clean += d.cracking((long) seed + k, man, part, best).isEmpty() ? 1 : 0;
            }
            List<Integer> which = best == null ? new ArrayList<>() : d.cracking(seed, man, part, best);
            CHECK.due("cracks", x.cracks(seed, man, part), best == null ? -1 : which.size());
            CHECK.due("cracked", x.cracked(seed, man, part), which.isEmpty() ? -1 : which.get(0));
            CHECK.due("clean", x.clean(seed, 20, man, part), best == null ? -1 : clean);
        }
    }

    private static void compareOthers(LipsAndSlides x, Brute d, int man, int part) {
        List<Integer> at = d.sounding(part);
        int[] still = new int[at.size()];
        int quick = 0;
        while (quick <= 9 && !d.canPlay(man, part, quick, d.cents, still)) {
            quick++;
        }
        CHECK.due("quick", x.quick(man, part), quick > 9 ? -1 : quick);
        int cents = 1;
        while (cents <= 60 && !d.canPlay(man, part, d.men.get(man).quick, cents, still)) {
            cents++;
        }
        CHECK.due("cents", x.cents(man, part), cents > 60 ? -1 : cents);
        CHECK.due("stuck", x.stuck(man, part), d.stuck(man, part));
        CHECK.due("shift", x.shift(man, part), d.shift(man, part));
        if (at.size() <= 6) {
            int[] row = d.movedRow(man, part);
            int number = 0;
            for (int k = 0; row != null && k < row.length; k++) {
                number += row[k] == 0 ? 0 : 1;
            }
            CHECK.due("moved", x.moved(man, part), row == null ? -1 : number);
            for (int i = -1; i <= d.parts.get(part).size(); i++) {
                int k = at.indexOf(i);
                CHECK.due("put " + i, x.put(man, part, i), row == null || k < 0 ? -1 : row[k]);
            }
        }
        int marks = d.marks(man, part);
        CHECK.due("marks", x.marks(man, part), marks);
        CHECK.due("breaths", x.breaths(man, part), marks == -1 ? -1 : Integer.bitCount(marks));
        CHECK.due("choked", x.choked(man, part), d.choked(man, part));
    }

    private static void compareJudged(LipsAndSlides x, Brute d, int man, int part, Random r) {
        List<Integer> at = d.sounding(part);
        for (int n = 0; n < 6; n++) {
            int[] row = new int[at.size()];
            List<int[]> some = d.allPlays(man, part, d.men.get(man).quick, d.cents, row, 50);
            if (!some.isEmpty()) {
                row = some.get(r.nextInt(some.size()));
            }
            if (row.length > 0 && n > 0) {
                row[r.nextInt(row.length)] = r.nextInt(5) - 1;
            }
            long[] numbers = new long[row.length];
            for (int k = 0; k < row.length; k++) {
                numbers[k] = row[k];
            }
            Check.rowOf(x, 3, n % 4, numbers);
            int right = rightOnes(d, man, part, row);
            CHECK.due("judge", x.judge(3, man, part), right);
            CHECK.due("told", x.told(3, man, part), right < row.length ? -1 : d.costOf(man, part, row));
            if (row.length > 0) {
                x.row(3, 0, row.length - 1);
                CHECK.due("judge of a short row", x.judge(3, man, part), -7);
                CHECK.due("told of a short row", x.told(3, man, part), -7);
            }
        }
    }

    private static int rightOnes(Brute d, int man, int part, int[] row) {
        List<Integer> at = d.sounding(part);
        int[] last = null;
        for (int k = 0; k < row.length; k++) {
            List<int[]> ways = d.waysOf(d.men.get(man).horn, d.parts.get(part).get(at.get(k)).pitch, d.cents);
            if (row[k] < 0 || row[k] >= ways.size()) {
                return k;
            }
            int[] way = ways.get(row[k]);
            if (k > 0 && !d.follows(man, part, d.men.get(man).quick, at.get(k - 1), at.get(k), last, way)) {
                return k;
            }
            last = way;
        }
        return row.length;
    }

    private static void compareDoubles(LipsAndSlides x, Brute d, int part) {
        int line = -1;
        boolean few = d.parts.get(part).size() <= 6;
        for (int set = -1; set <= 1 << d.men.size(); set++) {
            boolean is = set > 0 && set < 1 << d.men.size() && Integer.bitCount(set) <= 3;
            if (!is) {
                CHECK.due("doubles of no set", x.doubles(set, part), -2);
                CHECK.due("leaves of no set", x.leaves(set, part, 0), -2);
                continue;
            }
            int[] order = few ? d.order(set, part) : d.longOrder(set, part);
            if (few && order != null) {
                CHECK.holds("both orders are one", java.util.Arrays.equals(order, d.longOrder(set, part)));
            }
            int number = 0;
            for (int i = 0; order != null && i < order.length; i++) {
                number += order[i] == -1 ? 0 : 1;
            }
            left += number;
            CHECK.due("doubles " + set, x.doubles(set, part), order == null ? -1 : number);
            for (int i = -1; i <= d.parts.get(part).size(); i++) {
                boolean in = order != null && i >= 0 && i < order.length;
                CHECK.due("leaves " + set + " " + i, x.leaves(set, part, i), in ? order[i] : -1);
            }
            boolean fewer = line < 0 || Integer.bitCount(set) < Integer.bitCount(line);
            if (order != null && fewer) {
                line = set;
            }
        }
        CHECK.due("line", x.line(part), line);
    }

    private static void compareShared(LipsAndSlides x, Brute d) {
        int parts = d.parts.size();
        int men = d.men.size();
        int[][] cost = new int[men][parts];
        for (int p = 0; p < parts; p++) {
            int best = -1;
            for (int m = 0; m < men; m++) {
                cost[m][p] = x.cost(m, p);
                boolean can = cost[m][p] >= 0;
                if (can && (best < 0 || cost[m][p] < cost[best][p]
                        || cost[m][p] == cost[best][p] && x.sour(m, p) < x.sour(best, p))) {
                    best = m;
                }
            }
            CHECK.due("best", x.best(p), best);
        }
        int[] row = new int[parts];
        int[] first = new int[parts];
        int least = share(cost, row, 0, 0, -1, first);
        CHECK.due("shared", x.shared(), least);
        for (int p = 0; p < parts; p++) {
            CHECK.due("given", x.given(p), least < 0 ? -1 : first[p]);
        }
    }

    private static int share(int[][] cost, int[] row, int p, int sum, int least, int[] first) {
        if (p == row.length) {
            if (least >= 0 && sum >= least) {
                return least;
            }
            System.arraycopy(row, 0, first, 0, row.length);
            return sum;
        }
        int now = least;
        for (int m = 0; m < cost.length; m++) {
            boolean twice = false;
            for (int q = 0; q < p; q++) {
                twice |= row[q] == m;
            }
            if (!twice && cost[m][p] >= 0) {
                row[p] = m;
                now = share(cost, row, p + 1, sum + cost[m][p], now, first);
            }
        }
        return now;
    }

    private static void compareHeard(LipsAndSlides x, Brute d, Random r) {
        for (int n = 0; n < 12; n++) {
            int pairs = r.nextInt(3);
            long[] numbers = new long[2 * pairs];
            for (int k = 0; k < pairs; k++) {
                numbers[2 * k] = r.nextInt(61);
                numbers[2 * k + 1] = r.nextInt(9) - 1;
                if (!d.horns.isEmpty() && r.nextInt(4) > 0) {
                    int h = r.nextInt(d.horns.size());
                    for (int t = 0; t < 30 && d.waysOf(h, (int) numbers[2 * k], d.cents).isEmpty(); t++) {
                        numbers[2 * k] = r.nextInt(61);
                    }
                    List<int[]> ways = d.waysOf(h, (int) numbers[2 * k], d.cents);
                    numbers[2 * k + 1] = ways.isEmpty() ? 0 : ways.get(r.nextInt(ways.size()))[1];
                }
            }
            Check.rowOf(x, 2, n % 4, numbers);
            int bits = 0;
            for (int h = 0; h < d.horns.size(); h++) {
                boolean all = true;
                for (int k = 0; k < pairs; k++) {
                    boolean one = false;
                    for (int[] way : d.waysOf(h, (int) numbers[2 * k], d.cents)) {
                        one |= way[1] == numbers[2 * k + 1];
                    }
                    all &= one;
                }
                bits |= all ? 1 << h : 0;
            }
            CHECK.due("heard", x.heard(2), bits);
        }
    }
}
