import java.lang.management.ManagementFactory;
import java.util.Random;

/**
 * Calls at random, with any arguments in any state: none may throw, the same calls answer the same,
 * calls that only ask change nothing and are not changed by what was asked before, and what an object
 * makes after its constructor is counted.
 */
public final class FuzzTest {
    private static final Check CHECK = new Check("FuzzTest");
    private static final int CALLS = 512;
    private static final int METHODS = 59;
    private static final int[] EDGES = {Integer.MIN_VALUE, -100000, -2, -1, 0, 1, 2, 3, 4, 7, 8, 9, 15, 16, 34, 59, 60, 61, 100, 511,
        512, 999, 2000, 2000000000, Integer.MAX_VALUE};

    public static void main(String[] args) {
        anyCalls();
        asksChangeNothing();
        asksLeaveNothing();
        makesNothing();
        CHECK.finish();
    }

    private static int argument(Random r) {
        switch (r.nextInt(8)) {
            case 0:
                return EDGES[r.nextInt(EDGES.length)];
            case 1:
                return r.nextInt();
            case 2:
                return r.nextInt(61);
            default:
                return r.nextInt(4);
        }
    }

    private static void anyCalls() {
        for (int seed = 0; seed < 600; seed++) {
            LipsAndSlides x = new LipsAndSlides();
            LipsAndSlides y = new LipsAndSlides();
            Random r = new Random(seed);
            for (int n = 0; n < CALLS; n++) {
                if (r.nextInt(60) == 0 || n == 0) {
                    String text = someText(r);
                    Check.feedText(x, text);
                    Check.feedText(y, text);
                    CHECK.due("desk() twice", x.desk(), y.desk());
                    continue;
                }
                int method = r.nextInt(METHODS);
                int[] a = {argument(r), argument(r), argument(r), argument(r), argument(r)};
                int first = call(x, method, a);
                CHECK.due("method " + method + " twice", call(y, method, a), first);
            }
        }
    }

    private static String someText(Random r) {
        if (r.nextInt(6) == 0) {
            StringBuilder noise = new StringBuilder();
            for (int i = r.nextInt(60); i > 0; i--) {
                noise.append((char) r.nextInt(256));
            }
            return noise.toString();
        }
        String text = Brute.random(r, r.nextInt(2) == 0 ? 16 : 6).text();
        return text.length() > 1980 ? "desk cents 60 highest 12;" : text;
    }

    /** Everything that can be asked, as one number. */
    private static long asked(LipsAndSlides x) {
        long sum = 0;
        int[] a = new int[5];
        for (int method = 2; method < METHODS; method++) {
            if (changes(method)) {
                continue;
            }
            for (int n = 0; n < 81; n++) {
                a[0] = n % 3;
                a[1] = n / 3 % 3;
                a[2] = n / 9 % 3;
                a[3] = n / 27;
                sum = sum * 31 + call(x, method, a);
            }
        }
        return sum;
    }

    private static boolean changes(int method) {
        // end, desk, train, tune, pitch, slur, keep, back, row, write, paste
        return method == 1 || method == 2 || method >= 46 && method <= 49 || method >= 54;
    }

    private static void asksChangeNothing() {
        for (int seed = 0; seed < 60; seed++) {
            Brute d = Brute.random(new Random(seed), 6);
            LipsAndSlides x = Check.deskOf(d.text());
            Check.feedText(x, "part");
            x.desk();
            Check.rowOf(x, 0, 1, 0, 1, 0, 1, 2, 0);
            long first = asked(x);
            CHECK.due("asked once more", asked(x), first);
        }
    }

    /** One object has one desk after another and is asked; a new one, asked this alone, answers the same. */
    private static void asksLeaveNothing() {
        for (int seed = 0; seed < 60; seed++) {
            Random r = new Random(seed);
            LipsAndSlides x = new LipsAndSlides();
            for (int n = 0; n < 5; n++) {
                String text = Brute.random(r, r.nextInt(3) == 0 ? 16 : 5).text();
                if (text.length() > 1980) {
                    continue;
                }
                Check.feedText(x, text);
                x.desk();
                long[] numbers = {r.nextInt(3), r.nextInt(3), r.nextInt(3), r.nextInt(3), 34, 0};
                Check.rowOf(x, 0, 3, numbers);
                for (int k = 0; k < 40; k++) {
                    int method = 3 + r.nextInt(METHODS - 3);
                    int[] a = {r.nextInt(4), r.nextInt(3), r.nextInt(4), r.nextInt(3), 0};
                    if (changes(method) || method == 53) {
                        continue;
                    }
                    LipsAndSlides fresh = Check.deskOf(text);
                    Check.rowOf(fresh, 0, 3, numbers);
                    CHECK.due("method " + method + " of a new object", call(x, method, a), call(fresh, method, a));
                }
            }
        }
    }

    private static void makesNothing() {
        com.sun.management.ThreadMXBean bean = (com.sun.management.ThreadMXBean) ManagementFactory.getThreadMXBean();
        LipsAndSlides x = Check.deskOf(Brute.random(new Random(7), 6).text());
        int[] a = new int[5];
        for (int warm = 0; warm < 3; warm++) {
            asked(x);
            bean.getThreadAllocatedBytes(Thread.currentThread().getId());
        }
        long before = bean.getThreadAllocatedBytes(Thread.currentThread().getId());
        for (int method = 0; method < METHODS; method++) {
            for (int n = 0; n < 500; n++) {
                a[0] = n % 3;
                a[1] = n / 3 % 3;
                a[2] = n / 9 % 3;
                call(x, method, a);
            }
        }
        long made = bean.getThreadAllocatedBytes(Thread.currentThread().getId()) - before;
        // 29500 calls: a single object in each would be more than this
        CHECK.holds("calls make no objects, but " + made + " bytes were made", made < 100000);
        before = bean.getThreadAllocatedBytes(Thread.currentThread().getId());
        new LipsAndSlides();
        made = bean.getThreadAllocatedBytes(Thread.currentThread().getId()) - before;
        CHECK.holds("an object is small, but it has " + made + " bytes", made < 250000);
    }

    private static int call(LipsAndSlides x, int method, int[] a) {
        if (method < 30) {
            return callFirst(x, method, a);
        }
        switch (method) {
            case 30: return x.load(a[0], a[1], a[2]);
            case 31: return x.tired(a[0], a[1]);
            case 32: return x.spared(a[0], a[1]);
            case 33: return x.doubles(a[0], a[1]);
            case 34: return x.leaves(a[0], a[1], a[2]);
            case 35: return x.line(a[0]);
            case 36: return x.best(a[0]);
            case 37: return x.shared();
            case 38: return x.given(a[0]);
            case 39: return x.judge(a[0], a[1], a[2]);
            case 40: return x.told(a[0], a[1], a[2]);
            case 41: return x.heard(a[0]);
            case 42: return x.cracks(a[0], a[1], a[2]);
            case 43: return x.cracked(a[0], a[1], a[2]);
            case 44: return x.clean(a[0], a[1], a[2], a[3]);
            case 45: return x.tones(a[0]);
            case 46: return x.train(a[0], a[1], a[2]);
            case 47: return x.tune(a[0], a[1]);
            case 48: return x.pitch(a[0], a[1], a[2]);
            case 49: return x.slur(a[0], a[1], a[2]);
            case 50: return x.beats(a[0]);
            case 51: return x.phrase(a[0], a[1]);
            case 52: return x.pitches(a[0]);
            case 53: return x.count(a[0]);
            case 54: return x.keep(a[0]);
            case 55: return x.back(a[0]);
            case 56: return x.row(a[0], a[1], a[2]);
            case 57: return x.write(a[0], a[1], (long) a[2] * a[3] + a[4]);
            default: return x.paste(a[0], a[1], a[2], a[3], a[4]);
        }
    }

    private static int callFirst(LipsAndSlides x, int method, int[] a) {
        switch (method) {
            case 0: return x.feed(a[0], a[1], a[2], a[3], a[4]);
            case 1: return x.end(a[0]);
            case 2: return x.desk();
            case 3: return x.fault(a[0]);
            case 4: return x.brass(a[0], a[1]);
            case 5: return x.player(a[0], a[1]);
            case 6: return x.tone(a[0], a[1], a[2]);
            case 7: return x.flat(a[0], a[1]);
            case 8: return x.off(a[0], a[1], a[2], a[3]);
            case 9: return x.drawnOut(a[0], a[1], a[2], a[3]);
            case 10: return x.ways(a[0], a[1]);
            case 11: return x.way(a[0], a[1], a[2], a[3]);
            case 12: return x.range(a[0], a[1]);
            case 13: return x.common(a[0], a[1]);
            case 14: return x.move(a[0], a[1], a[2]);
            case 15: return x.plays(a[0], a[1]);
            case 16: return x.cost(a[0], a[1]);
            case 17: return x.sour(a[0], a[1]);
            case 18: return x.chosen(a[0], a[1], a[2], a[3]);
            case 19: return x.slurs(a[0], a[1], a[2]);
            case 20: return x.stuck(a[0], a[1]);
            case 21: return x.quick(a[0], a[1]);
            case 22: return x.cents(a[0], a[1]);
            case 23: return x.many(a[0], a[1]);
            case 24: return x.moved(a[0], a[1]);
            case 25: return x.put(a[0], a[1], a[2]);
            case 26: return x.shift(a[0], a[1]);
            case 27: return x.breaths(a[0], a[1]);
            case 28: return x.marks(a[0], a[1]);
            default: return x.choked(a[0], a[1]);
        }
    }
}
