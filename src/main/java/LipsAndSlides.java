/**
 * A band master's desk: brasses, players and parts read from a text, and what can be played on them.
 * The numbered promises of the document say what each public method answers.
 */
public final class LipsAndSlides {
    public static final int NONE = -1;

    private static final int ABSENT = -2;
    private static final int NEGATIVE = -3;
    private static final int TOO_MANY = -3;
    private static final int FAULTY = -4;
    private static final int EMPTY = -6;
    private static final int BEYOND = -7;
    private static final int UNLIKE = -8;
    private static final int NO_SHIFT = -100;
    private static final int NO_OFF = -100000;

    private static final int MOST_BRASSES = 4;
    private static final int MOST_PLAYERS = 9;
    private static final int MOST_PARTS = 3;
    private static final int MOST_TONES = 16;
    private static final int MOST_PITCH = 60;
    private static final int MOST_CENTS = 60;
    private static final int MOST_QUICK = 9;
    private static final int MOST_DOUBLES = 3;
    private static final int OCTAVE = 12;

    private static final int BUGLE = 0;
    private static final int HORN = 1;
    private static final int SLIDE = 2;

    private static final int KIND = 0;
    private static final int BASE = 1;
    private static final int LONG = 2;
    private static final int VALVES = 3;
    private static final int DRAWS = 6;
    private static final int BRASS_FIELDS = 7;

    private static final int BRASS = 0;
    private static final int QUICK = 1;
    private static final int AIR = 2;
    private static final int LIPS = 3;
    private static final int PLAYER_FIELDS = 4;

    private static final int PITCH = 0;
    private static final int BEATS = 1;
    private static final int SLURRED = 2;
    private static final int BREATH = 3;
    private static final int BEGINS = 4;
    private static final int TONE_FIELDS = 5;

    private static final int IMAGES = 3;
    private static final int SLOTS = 4;
    private static final int MOST_NUMBERS = 60;
    private static final int MOST_SEED = 2000000000;
    private static final int MOST_SEEDS = 20;
    private static final int MOST_PLAYS = 1000000000;

    private final Reader reader = new Reader();
    private Desk now = new Desk();
    // the text is read into this one, so that a fault leaves the desk as it was
    private Desk spare = new Desk();
    private final Desk[] images = new Desk[IMAGES];
    private final int[] kept = new int[IMAGES];
    private final Row[] slots = new Row[SLOTS];
    private final Tube tube = new Tube();
    private final Tube otherTube = new Tube();
    private final Plays score = new Plays();
    private final Lungs lungs = new Lungs();
    private final Doubles turns = new Doubles();
    private final Sharing sharing = new Sharing();

    public LipsAndSlides() {
        for (int k = 0; k < IMAGES; k++) {
            images[k] = new Desk();
        }
        for (int slot = 0; slot < SLOTS; slot++) {
            slots[slot] = new Row();
        }
    }

    // ---- the tape and the desk

    public int feed(int a, int b, int c, int d, int e) {
        if (!reader.hasRoom()) {
            return NONE;
        }
        reader.append(a);
        reader.append(b);
        reader.append(c);
        reader.append(d);
        reader.append(e);
        return reader.length;
    }

    public int end(int n) {
        if (n < 0 || n > reader.length) {
            return NONE;
        }
        reader.length = n;
        return n;
    }

    public int desk() {
        if (!reader.readInto(spare)) {
            return FAULTY;
        }
        Desk old = now;
        now = spare;
        spare = old;
        reader.length = 0;
        return now.lines;
    }

    public int fault(int what) {
        if (what == 0) {
            return reader.faultKind;
        }
        return what == 1 ? reader.faultPlace : NONE;
    }

    public int count(int what) {
        switch (what) {
            case 0:
                return now.cents;
            case 1:
                return now.highest;
            case 2:
                return now.brasses;
            case 3:
                return now.players;
            case 4:
                return now.parts;
            case 5:
                return now.lines;
            case 6:
                return reader.length;
            case 7:
                return rowsThere();
            default:
                return NONE;
        }
    }

    private int rowsThere() {
        int there = 0;
        for (int slot = 0; slot < SLOTS; slot++) {
            if (slots[slot].there) {
                there++;
            }
        }
        return there;
    }

    public int keep(int k) {
        if (k < 0 || k >= IMAGES) {
            return ABSENT;
        }
        images[k].copyFrom(now);
        kept[k] = 1;
        return 0;
    }

    public int back(int k) {
        if (k < 0 || k >= IMAGES) {
            return ABSENT;
        }
        if (kept[k] == 0) {
            return EMPTY;
        }
        now.copyFrom(images[k]);
        return 0;
    }

    // ---- what the desk tells

    public int brass(int brass, int what) {
        return now.brassField(brass, what);
    }

    public int player(int player, int what) {
        return now.playerField(player, what);
    }

    public int tone(int part, int i, int what) {
        return now.toneField(part, i, what);
    }

    public int tones(int part) {
        return now.hasPart(part) ? now.tonesOf(part) : ABSENT;
    }

    public int beats(int part) {
        return now.hasPart(part) ? now.beatsBefore(part, MOST_TONES) : ABSENT;
    }

    public int phrase(int part, int what) {
        if (!now.hasPart(part) || what < 0 || what > 1) {
            return ABSENT;
        }
        int most = 0;
        int first = NONE;
        int beatsNow = 0;
        int firstNow = 0;
        for (int i = 0; i < now.tonesOf(part); i++) {
            if (now.isRest(part, i)) {
                beatsNow = 0;
                firstNow = i + 1;
                continue;
            }
            beatsNow += now.toneField(part, i, BEATS);
            if (beatsNow > most) {
                most = beatsNow;
                first = firstNow;
            }
        }
        return what == 0 ? most : first;
    }

    public int pitches(int part) {
        if (!now.hasPart(part)) {
            return ABSENT;
        }
        // pitches are 0 .. 60, so the bits of one long hold the set of them
        long seen = 0;
        for (int i = 0; i < now.tonesOf(part); i++) {
            if (!now.isRest(part, i)) {
                seen |= 1L << now.toneField(part, i, PITCH);
            }
        }
        return Long.bitCount(seen);
    }

    // ---- changes of the desk

    public int train(int player, int what, int n) {
        if (!now.hasPlayer(player) || !mayBeTrained(what, n)) {
            return ABSENT;
        }
        int was = now.playerField(player, what);
        now.setPlayer(player, what, n);
        return was;
    }

    private static boolean mayBeTrained(int what, int n) {
        switch (what) {
            case QUICK:
                return n >= 0 && n <= MOST_QUICK;
            case AIR:
                return n >= 1 && n <= Reader.MOST_AIR;
            case LIPS:
                return n >= 0 && n <= Reader.MOST_LIPS;
            default:
                return false;
        }
    }

    public int tune(int brass, int n) {
        if (!now.hasBrass(brass) || n < Reader.LEAST_LONG || n > Reader.MOST_LONG) {
            return ABSENT;
        }
        int was = now.brassField(brass, LONG);
        now.setBrass(brass, LONG, n);
        return was;
    }

    public int pitch(int part, int i, int n) {
        if (!now.isSounding(part, i) || n < 0 || n > MOST_PITCH) {
            return ABSENT;
        }
        int was = now.toneField(part, i, PITCH);
        now.setTone(part, i, PITCH, n);
        return was;
    }

    public int slur(int part, int i, int is) {
        if (!now.isSounding(part, i) || is < 0 || is > 1) {
            return ABSENT;
        }
        int was = now.toneField(part, i, SLURRED);
        now.setTone(part, i, SLURRED, is);
        return was;
    }

    // ---- settings and ways

    public int flat(int brass, int setting) {
        if (!aimTube(tube, brass) || !tube.hasSetting(setting)) {
            return ABSENT;
        }
        return tube.flatBy(tube.longerBy(setting));
    }

    public int off(int brass, int pitch, int partial, int setting) {
        if (!canBeTried(brass, pitch, partial, setting)) {
            return NO_OFF;
        }
        return tube.offOf(pitch, partial, setting);
    }

    public int drawnOut(int brass, int pitch, int partial, int setting) {
        if (!canBeTried(brass, pitch, partial, setting)) {
            return ABSENT;
        }
        return tube.drawFor(setting, tube.wantedFlat(pitch, partial));
    }

    public int ways(int brass, int pitch) {
        if (!aimTube(tube, brass) || !isPitch(pitch)) {
            return ABSENT;
        }
        return tube.countWays(pitch, now.cents);
    }

    public int way(int brass, int pitch, int k, int what) {
        if (!aimTube(tube, brass) || !isPitch(pitch) || what < 0 || what > 1) {
            return ABSENT;
        }
        int found = tube.nthWay(pitch, now.cents, k);
        if (found < 0) {
            return NONE;
        }
        return what == 0 ? found / Tube.MOST_SETTINGS : found % Tube.MOST_SETTINGS;
    }

    public int range(int brass, int what) {
        if (!aimTube(tube, brass) || what < 0 || what > 2) {
            return ABSENT;
        }
        int least = NONE;
        int greatest = NONE;
        int having = 0;
        for (int pitch = 0; pitch <= MOST_PITCH; pitch++) {
            if (tube.countWays(pitch, now.cents) > 0) {
                least = least == NONE ? pitch : least;
                greatest = pitch;
                having++;
            }
        }
        if (what == 0 || least == NONE) {
            return least;
        }
        return what == 1 ? greatest : greatest - least + 1 - having;
    }

    public int common(int brass, int other) {
        if (brass == other || !aimTube(tube, brass) || !aimTube(otherTube, other)) {
            return ABSENT;
        }
        int both = 0;
        for (int pitch = 0; pitch <= MOST_PITCH; pitch++) {
            if (tube.countWays(pitch, now.cents) > 0 && otherTube.countWays(pitch, now.cents) > 0) {
                both++;
            }
        }
        return both;
    }

    public int move(int brass, int setting, int other) {
        if (!aimTube(tube, brass) || !tube.hasSetting(setting) || !tube.hasSetting(other)) {
            return ABSENT;
        }
        return tube.moveBetween(setting, other);
    }

    private boolean aimTube(Tube aimed, int brass) {
        if (!now.hasBrass(brass)) {
            return false;
        }
        aimed.aim(now, brass);
        return true;
    }

    private boolean canBeTried(int brass, int pitch, int partial, int setting) {
        return aimTube(tube, brass) && isPitch(pitch) && tube.hasPartial(partial) && tube.hasSetting(setting);
    }

    private static boolean isPitch(long pitch) {
        return pitch >= 0 && pitch <= MOST_PITCH;
    }

    // ---- plays

    private boolean hasPair(int player, int part) {
        return now.hasPlayer(player) && now.hasPart(part);
    }

    /** Lays the ways of the part out in the score, and the best play if there is one: 0, NONE or ABSENT. */
    private int layBest(int player, int part) {
        if (!hasPair(player, part)) {
            return ABSENT;
        }
        score.aim(now, player, part);
        score.layWays(now.cents, 0);
        return score.findBest() ? 0 : NONE;
    }

    public int plays(int player, int part) {
        int found = layBest(player, part);
        if (found == ABSENT) {
            return ABSENT;
        }
        return found == 0 ? 1 : 0;
    }

    public int cost(int player, int part) {
        int found = layBest(player, part);
        return found == 0 ? score.bestCost : found;
    }

    public int sour(int player, int part) {
        int found = layBest(player, part);
        return found == 0 ? score.bestSour : found;
    }

    public int chosen(int player, int part, int i, int what) {
        if (what < 0 || what > 2) {
            return ABSENT;
        }
        int found = layBest(player, part);
        return found == 0 ? score.pickedAt(score.stepOf(i), what) : found;
    }

    public int slurs(int player, int part, int what) {
        if (what < 0 || what > 2) {
            return ABSENT;
        }
        int found = layBest(player, part);
        return found == 0 ? score.countSlurs(what) : found;
    }

    public int stuck(int player, int part) {
        if (!hasPair(player, part)) {
            return ABSENT;
        }
        score.aim(now, player, part);
        score.layWays(now.cents, 0);
        return score.firstUnreached();
    }

    public int quick(int player, int part) {
        if (!hasPair(player, part)) {
            return ABSENT;
        }
        score.aim(now, player, part);
        score.layWays(now.cents, 0);
        return score.leastQuick();
    }

    public int cents(int player, int part) {
        if (!hasPair(player, part)) {
            return ABSENT;
        }
        score.aim(now, player, part);
        score.layWays(MOST_CENTS, 0);
        return score.leastCents();
    }

    public int many(int player, int part) {
        if (!hasPair(player, part)) {
            return ABSENT;
        }
        score.aim(now, player, part);
        score.layWays(now.cents, 0);
        int number = score.countPlays();
        return number > MOST_PLAYS ? TOO_MANY : number;
    }

    public int moved(int player, int part) {
        if (!hasPair(player, part)) {
            return ABSENT;
        }
        return fewestMoved(player, part);
    }

    public int put(int player, int part, int i) {
        if (!hasPair(player, part)) {
            return ABSENT;
        }
        if (fewestMoved(player, part) == NONE) {
            return NONE;
        }
        return score.movedAt(score.stepOf(i));
    }

    private int fewestMoved(int player, int part) {
        score.aim(now, player, part);
        score.layOctaves(now.cents);
        return score.findMoved();
    }

    public int shift(int player, int part) {
        if (!hasPair(player, part)) {
            return ABSENT;
        }
        score.aim(now, player, part);
        for (int away = 0; away <= OCTAVE; away++) {
            if (playsShifted(away)) {
                return away;
            }
            if (playsShifted(-away)) {
                return -away;
            }
        }
        return NO_SHIFT;
    }

    private boolean playsShifted(int by) {
        score.layWays(now.cents, by);
        return score.firstUnreached() == NONE;
    }

    // ---- air and lips

    public int breaths(int player, int part) {
        if (!hasPair(player, part)) {
            return ABSENT;
        }
        return lungs.findMarks(now, player, part) ? lungs.taken : NONE;
    }

    public int marks(int player, int part) {
        if (!hasPair(player, part)) {
            return ABSENT;
        }
        return lungs.findMarks(now, player, part) ? lungs.bits : NONE;
    }

    public int choked(int player, int part) {
        if (!hasPair(player, part)) {
            return ABSENT;
        }
        return lungs.firstChoked(now, player, part);
    }

    public int load(int player, int part, int i) {
        if (!now.hasTone(part, i)) {
            return ABSENT;
        }
        int found = layBest(player, part);
        return found == 0 ? loadBehind(part, i) : found;
    }

    public int tired(int player, int part) {
        int found = layBest(player, part);
        return found == 0 ? firstTired(player, part) : found;
    }

    public int spared(int player, int part) {
        int found = layBest(player, part);
        if (found != 0) {
            return found;
        }
        int first = firstTired(player, part);
        return first == NONE ? 0 : now.soundingFrom(part, first);
    }

    /** The load behind tone last by the best play that is laid out. */
    private int loadBehind(int part, int last) {
        int load = 0;
        for (int i = 0; i <= last && i < now.tonesOf(part); i++) {
            load = loadAfter(load, part, i);
        }
        return load;
    }

    private int loadAfter(int load, int part, int i) {
        int beats = now.toneField(part, i, BEATS);
        if (now.isRest(part, i)) {
            return Math.max(0, load - 2 * beats);
        }
        return load + beats * Math.max(1, score.pickedAt(score.stepOf(i), 0) - 3);
    }

    private int firstTired(int player, int part) {
        int load = 0;
        for (int i = 0; i < now.tonesOf(part); i++) {
            load = loadAfter(load, part, i);
            if (load > now.playerField(player, LIPS)) {
                return i;
            }
        }
        return NONE;
    }

    // ---- doubles

    private boolean isDouble(int set) {
        int size = Integer.bitCount(set);
        return set > 0 && set < 1 << now.players && size <= MOST_DOUBLES;
    }

    public int doubles(int set, int part) {
        if (!isDouble(set) || !now.hasPart(part)) {
            return ABSENT;
        }
        turns.aim(now, set, part);
        return turns.fewestLeft();
    }

    public int leaves(int set, int part, int i) {
        if (!isDouble(set) || !now.hasPart(part)) {
            return ABSENT;
        }
        if (!now.hasTone(part, i)) {
            return NONE;
        }
        turns.aim(now, set, part);
        return turns.findOrder() ? turns.leaverOf(i) : NONE;
    }

    public int line(int part) {
        if (!now.hasPart(part)) {
            return ABSENT;
        }
        // of three who can, any two can as well: what the third one leaves out they play both
        for (int size = 1; size <= 2; size++) {
            int set = leastLine(part, size);
            if (set != NONE) {
                return set;
            }
        }
        return NONE;
    }

    private int leastLine(int part, int size) {
        for (int set = 1; set < 1 << now.players; set++) {
            if (Integer.bitCount(set) != size) {
                continue;
            }
            turns.aim(now, set, part);
            if (turns.fewestLeft() != NONE) {
                return set;
            }
        }
        return NONE;
    }

    // ---- who plays what

    public int best(int part) {
        if (!now.hasPart(part)) {
            return ABSENT;
        }
        int who = NONE;
        int cost = 0;
        int sour = 0;
        for (int player = 0; player < now.players; player++) {
            if (layBest(player, part) != 0) {
                continue;
            }
            boolean better = score.bestCost < cost || score.bestCost == cost && score.bestSour < sour;
            if (who == NONE || better) {
                who = player;
                cost = score.bestCost;
                sour = score.bestSour;
            }
        }
        return who;
    }

    public int shared() {
        if (now.lines == 0) {
            return ABSENT;
        }
        return findShared();
    }

    public int given(int part) {
        if (!now.hasPart(part)) {
            return ABSENT;
        }
        return findShared() == NONE ? NONE : sharing.playerOf(part);
    }

    private int findShared() {
        for (int part = 0; part < now.parts; part++) {
            for (int player = 0; player < now.players; player++) {
                sharing.setCost(player, part, layBest(player, part) == 0 ? score.bestCost : NONE);
            }
        }
        return sharing.findLeast(now.players, now.parts);
    }

    // ---- plays told, heard, drawn

    /** What hinders a slot's row from being judged, 0 if nothing does; the ways are laid out then. */
    private int layJudged(int slot, int player, int part) {
        if (!isSlot(slot) || !hasPair(player, part)) {
            return ABSENT;
        }
        if (!slots[slot].there) {
            return EMPTY;
        }
        score.aim(now, player, part);
        if (slots[slot].length < score.steps) {
            return BEYOND;
        }
        score.layWays(now.cents, 0);
        return 0;
    }

    public int judge(int slot, int player, int part) {
        int hindered = layJudged(slot, player, part);
        return hindered == 0 ? score.countRight(slots[slot]) : hindered;
    }

    public int told(int slot, int player, int part) {
        int hindered = layJudged(slot, player, part);
        if (hindered != 0) {
            return hindered;
        }
        return score.countRight(slots[slot]) == score.steps ? score.costOfPicked() : NONE;
    }

    public int heard(int slot) {
        if (!isSlot(slot) || now.lines == 0) {
            return ABSENT;
        }
        Row row = slots[slot];
        if (!row.there) {
            return EMPTY;
        }
        if (row.length % 2 != 0 || !holdsPitches(row)) {
            return ABSENT;
        }
        int bits = 0;
        for (int brass = 0; brass < now.brasses; brass++) {
            tube.aim(now, brass);
            if (couldSound(row)) {
                bits |= 1 << brass;
            }
        }
        return bits;
    }

    private static boolean holdsPitches(Row row) {
        for (int i = 0; i < row.length; i += 2) {
            if (!isPitch(row.numberAt(i))) {
                return false;
            }
        }
        return true;
    }

    private boolean couldSound(Row row) {
        for (int i = 0; i + 1 < row.length; i += 2) {
            long setting = row.numberAt(i + 1);
            if (setting < 0 || setting >= tube.settings) {
                return false;
            }
            if (!tube.soundsBy((int) row.numberAt(i), (int) setting, now.cents)) {
                return false;
            }
        }
        return true;
    }

    private static boolean isSeed(int seed) {
        return seed >= 0 && seed <= MOST_SEED;
    }

    public int cracks(int seed, int player, int part) {
        if (!isSeed(seed)) {
            return ABSENT;
        }
        int found = layBest(player, part);
        if (found != 0) {
            return found;
        }
        score.drawFrom(seed);
        return score.crackCount;
    }

    public int cracked(int seed, int player, int part) {
        if (!isSeed(seed)) {
            return ABSENT;
        }
        int found = layBest(player, part);
        if (found != 0) {
            return found;
        }
        score.drawFrom(seed);
        return score.firstCrack;
    }

    public int clean(int seed, int n, int player, int part) {
        if (!isSeed(seed) || n < 1 || n > MOST_SEEDS) {
            return ABSENT;
        }
        int found = layBest(player, part);
        if (found != 0) {
            return found;
        }
        int without = 0;
        for (int k = 0; k < n; k++) {
            score.drawFrom((long) seed + k);
            if (score.crackCount == 0) {
                without++;
            }
        }
        return without;
    }

    // ---- slots

    private static boolean isSlot(int slot) {
        return slot >= 0 && slot < SLOTS;
    }

    public int row(int slot, int width, int n) {
        if (!isSlot(slot) || width < 0 || width > 3 || n > MOST_NUMBERS) {
            return ABSENT;
        }
        if (n < 0) {
            return NEGATIVE;
        }
        slots[slot].renew(width, n);
        return 0;
    }

    public int write(int slot, int i, long v) {
        if (!isSlot(slot)) {
            return ABSENT;
        }
        if (!slots[slot].there) {
            return EMPTY;
        }
        return slots[slot].setCut(i, v) ? 0 : BEYOND;
    }

    public int paste(int slot, int i, int to, int k, int n) {
        if (!isSlot(slot) || !isSlot(to)) {
            return ABSENT;
        }
        Row source = slots[slot];
        Row target = slots[to];
        if (!source.there || !target.there) {
            return EMPTY;
        }
        if (source.width != target.width) {
            return UNLIKE;
        }
        if (!source.holds(i, n) || !target.holds(k, n)) {
            return BEYOND;
        }
        System.arraycopy(source.numbers, i, target.numbers, k, n);
        return 0;
    }

    /** What a text tells: all that images keep. Without lines there is no desk. */
    private static final class Desk {
        int cents;
        int highest;
        int lines;
        int brasses;
        int players;
        int parts;
        private final int[] brassRows = new int[MOST_BRASSES * BRASS_FIELDS];
        private final int[] playerRows = new int[MOST_PLAYERS * PLAYER_FIELDS];
        private final int[] toneRows = new int[MOST_PARTS * MOST_TONES * TONE_FIELDS];
        private final int[] toneCounts = new int[MOST_PARTS];

        void clear() {
            cents = 0;
            highest = 0;
            lines = 0;
            brasses = 0;
            players = 0;
            parts = 0;
        }

        void copyFrom(Desk other) {
            cents = other.cents;
            highest = other.highest;
            lines = other.lines;
            brasses = other.brasses;
            players = other.players;
            parts = other.parts;
            System.arraycopy(other.brassRows, 0, brassRows, 0, brassRows.length);
            System.arraycopy(other.playerRows, 0, playerRows, 0, playerRows.length);
            System.arraycopy(other.toneRows, 0, toneRows, 0, toneRows.length);
            System.arraycopy(other.toneCounts, 0, toneCounts, 0, toneCounts.length);
        }

        boolean hasBrass(int brass) {
            return brass >= 0 && brass < brasses;
        }

        boolean hasPlayer(int player) {
            return player >= 0 && player < players;
        }

        boolean hasPart(int part) {
            return part >= 0 && part < parts;
        }

        boolean hasTone(int part, int i) {
            return part >= 0 && part < parts && i >= 0 && i < toneCounts[part];
        }

        boolean isRest(int part, int i) {
            return toneField(part, i, PITCH) == NONE;
        }

        boolean isSounding(int part, int i) {
            return hasTone(part, i) && !isRest(part, i);
        }

        int tonesOf(int part) {
            return hasPart(part) ? toneCounts[part] : 0;
        }

        int brassField(int brass, int what) {
            if (!hasBrass(brass) || what < 0 || what >= BRASS_FIELDS) {
                return ABSENT;
            }
            return brassRows[brass * BRASS_FIELDS + what];
        }

        int playerField(int player, int what) {
            if (!hasPlayer(player) || what < 0 || what >= PLAYER_FIELDS) {
                return ABSENT;
            }
            return playerRows[player * PLAYER_FIELDS + what];
        }

        int toneField(int part, int i, int what) {
            if (!hasTone(part, i) || what < 0 || what >= TONE_FIELDS) {
                return ABSENT;
            }
            return toneRows[(part * MOST_TONES + i) * TONE_FIELDS + what];
        }

        void setBrass(int brass, int what, int n) {
            if (hasBrass(brass) && what >= 0 && what < BRASS_FIELDS) {
                brassRows[brass * BRASS_FIELDS + what] = n;
            }
        }

        void setPlayer(int player, int what, int n) {
            if (hasPlayer(player) && what >= 0 && what < PLAYER_FIELDS) {
                playerRows[player * PLAYER_FIELDS + what] = n;
            }
        }

        void setTone(int part, int i, int what, int n) {
            if (hasTone(part, i) && what >= 0 && what < TONE_FIELDS) {
                toneRows[(part * MOST_TONES + i) * TONE_FIELDS + what] = n;
            }
        }

        boolean addBrass(int kind) {
            if (brasses >= MOST_BRASSES) {
                return false;
            }
            brasses++;
            for (int what = 0; what < BRASS_FIELDS; what++) {
                setBrass(brasses - 1, what, 0);
            }
            setBrass(brasses - 1, KIND, kind);
            return true;
        }

        boolean addPlayer() {
            if (players >= MOST_PLAYERS) {
                return false;
            }
            players++;
            return true;
        }

        boolean addPart() {
            if (parts >= MOST_PARTS) {
                return false;
            }
            toneCounts[parts] = 0;
            parts++;
            return true;
        }

        /** A tone of the last part, a rest until it is told otherwise. */
        boolean addTone() {
            int part = parts - 1;
            if (!hasPart(part) || toneCounts[part] >= MOST_TONES) {
                return false;
            }
            int i = toneCounts[part];
            int begins = beatsBefore(part, i);
            toneCounts[part]++;
            setTone(part, i, PITCH, NONE);
            setTone(part, i, BEATS, 0);
            setTone(part, i, SLURRED, 0);
            setTone(part, i, BREATH, 0);
            setTone(part, i, BEGINS, begins);
            return true;
        }

        int beatsBefore(int part, int end) {
            int sum = 0;
            for (int i = 0; i < end && i < tonesOf(part); i++) {
                sum += toneField(part, i, BEATS);
            }
            return sum;
        }

        int soundingFrom(int part, int first) {
            int sounding = 0;
            for (int i = first; i < tonesOf(part); i++) {
                if (isSounding(part, i)) {
                    sounding++;
                }
            }
            return sounding;
        }
    }

    /** The tape, its tokens and its faults. */
    private static final class Reader {
        static final int LEAST_LONG = 100;
        static final int MOST_LONG = 999;
        static final int MOST_AIR = 30;
        static final int MOST_LIPS = 999;
        private static final int MOST_BYTES = 2000;
        private static final int BYTES_A_FEED = 20;
        // above every bound of the document, so that long numbers need not be held
        private static final int HUGE = 1000000;

        private static final int AT_END = 0;
        private static final int WORD = 1;
        private static final int NUMBER = 2;
        private static final int SIGN = 3;
        private static final int STRANGE = 4;
        private static final int BLANK = 5;
        // no byte, where the tape has ended
        private static final int OUTSIDE = 256;

        private static final int MISPLACED = 1;
        private static final int OUT_OF_BOUNDS = 2;
        private static final int ONE_TOO_MANY = 3;

        private final byte[] tape = new byte[MOST_BYTES];
        int length;
        int faultKind;
        int faultPlace = NONE;
        private int next;
        private int place;
        private int token;
        private int value;

        boolean hasRoom() {
            return length >= 0 && length + BYTES_A_FEED <= MOST_BYTES;
        }

        void append(int four) {
            for (int moveBy = 24; moveBy >= 0; moveBy -= 8) {
                if (length >= 0 && length < MOST_BYTES) {
                    tape[length] = (byte) (four >> moveBy);
                    length++;
                }
            }
        }

        /** Whether the tape is without a fault; the desk is what it tells then. */
        boolean readInto(Desk desk) {
            desk.clear();
            faultKind = 0;
            faultPlace = NONE;
            next = 0;
            takeToken();
            for (int n = 0; n < MOST_BYTES && token != AT_END && faultKind == 0; n++) {
                readLine(desk);
                desk.lines++;
            }
            return faultKind == 0;
        }

        private void readLine(Desk desk) {
            if (isWord("desk") != (desk.lines == 0)) {
                refuse(MISPLACED);
            } else if (isWord("desk")) {
                takeToken();
                desk.cents = numberBehind("cents", 1, MOST_CENTS);
                desk.highest = numberBehind("highest", Tube.LEAST_PARTIAL, Tube.MOST_PARTIAL);
            } else if (isWord("bugle")) {
                readBrass(desk, BUGLE);
            } else if (isWord("horn")) {
                readBrass(desk, HORN);
            } else if (isWord("slide")) {
                readBrass(desk, SLIDE);
            } else if (isWord("player")) {
                readPlayer(desk);
            } else if (isWord("part")) {
                takeCounted(desk.addPart());
            } else if (isWord("tone") && desk.parts > 0) {
                readTone(desk);
            } else if (isWord("rest") && desk.parts > 0) {
                takeCounted(desk.addTone());
                desk.setTone(desk.parts - 1, desk.tonesOf(desk.parts - 1) - 1, BEATS, numberWithin(1, 9));
            } else {
                refuse(MISPLACED);
            }
            takeSign();
        }

        private void readBrass(Desk desk, int kind) {
            takeCounted(desk.addBrass(kind));
            int brass = desk.brasses - 1;
            desk.setBrass(brass, BASE, numberBehind("base", 0, 40));
            desk.setBrass(brass, LONG, numberBehind("long", LEAST_LONG, MOST_LONG));
            if (kind == HORN) {
                desk.setBrass(brass, VALVES, numberBehind("valves", 0, 400));
                desk.setBrass(brass, VALVES + 1, numberWithin(0, 400));
                desk.setBrass(brass, VALVES + 2, numberWithin(0, 400));
                desk.setBrass(brass, DRAWS, numberBehind("draws", 0, 60));
            } else if (kind == SLIDE) {
                desk.setBrass(brass, VALVES, numberBehind("step", 0, 100));
            }
        }

        private void readPlayer(Desk desk) {
            takeCounted(desk.addPlayer());
            int player = desk.players - 1;
            desk.setPlayer(player, BRASS, numberWithin(0, desk.brasses - 1));
            desk.setPlayer(player, QUICK, numberBehind("quick", 0, MOST_QUICK));
            desk.setPlayer(player, AIR, numberBehind("air", 1, MOST_AIR));
            desk.setPlayer(player, LIPS, numberBehind("lips", 0, MOST_LIPS));
        }

        private void readTone(Desk desk) {
            takeCounted(desk.addTone());
            int part = desk.parts - 1;
            int i = desk.tonesOf(part) - 1;
            desk.setTone(part, i, PITCH, numberWithin(0, MOST_PITCH));
            desk.setTone(part, i, BEATS, numberBehind("for", 1, 9));
            desk.setTone(part, i, SLURRED, takeIfWord("slurred"));
            desk.setTone(part, i, BREATH, takeIfWord("breath"));
        }

        /** Takes the word of a thing that is counted, unless there is no room for it. */
        private void takeCounted(boolean hadRoom) {
            if (hadRoom) {
                takeToken();
            } else {
                refuse(ONE_TOO_MANY);
            }
        }

        private int numberBehind(String word, int least, int most) {
            if (isWord(word)) {
                takeToken();
            } else {
                refuse(MISPLACED);
            }
            return numberWithin(least, most);
        }

        private int numberWithin(int least, int most) {
            int number = value;
            if (token != NUMBER) {
                refuse(MISPLACED);
            } else if (number < least || number > most) {
                refuse(OUT_OF_BOUNDS);
            }
            takeToken();
            return number;
        }

        private int takeIfWord(String word) {
            if (!isWord(word)) {
                return 0;
            }
            takeToken();
            return 1;
        }

        private void takeSign() {
            if (token != SIGN) {
                refuse(MISPLACED);
            }
            takeToken();
        }

        private void refuse(int kind) {
            // only the first fault counts: what is found behind it may come from it
            if (faultKind == 0) {
                faultKind = kind;
                faultPlace = place;
            }
        }

        private boolean isWord(String word) {
            if (token != WORD || next - place != word.length()) {
                return false;
            }
            for (int i = 0; i < word.length(); i++) {
                if (byteAt(place + i) != word.charAt(i)) {
                    return false;
                }
            }
            return true;
        }

        private void takeToken() {
            for (int n = 0; n < MOST_BYTES && kindOf(byteAt(next)) == BLANK; n++) {
                next++;
            }
            place = next;
            token = kindOf(byteAt(next));
            value = 0;
            for (int n = 0; n < MOST_BYTES && token != AT_END && kindOf(byteAt(next)) == token; n++) {
                if (token == NUMBER) {
                    value = Math.min(HUGE, value * 10 + byteAt(next) - '0');
                }
                next++;
                if (token == SIGN || token == STRANGE) {
                    break;
                }
            }
        }

        private int byteAt(int i) {
            return i >= 0 && i < length && i < MOST_BYTES ? tape[i] & 255 : OUTSIDE;
        }

        private static int kindOf(int sign) {
            if (sign >= 'a' && sign <= 'z') {
                return WORD;
            }
            if (sign >= '0' && sign <= '9') {
                return NUMBER;
            }
            switch (sign) {
                case OUTSIDE:
                    return AT_END;
                case ' ':
                case '\n':
                    return BLANK;
                case ';':
                    return SIGN;
                default:
                    return STRANGE;
            }
        }
    }

    /** One brass of the desk, made ready for reckoning. */
    private static final class Tube {
        static final int MOST_SETTINGS = 8;
        static final int LEAST_PARTIAL = 2;
        static final int MOST_PARTIAL = 12;
        private static final int THIRD_VALVE = 4;
        private static final int PLACES = 7;
        private static final int[] PARTIAL_CENTS = {
            1200, 1902, 2400, 2786, 3102, 3369, 3600, 3804, 3986, 4151, 4302
        };

        int settings;
        int highest;
        private int kind;
        private int base;
        private int length;
        private int draws;
        private final int[] longer = new int[MOST_SETTINGS];

        void aim(Desk desk, int brass) {
            kind = desk.brassField(brass, KIND);
            base = desk.brassField(brass, BASE);
            length = desk.brassField(brass, LONG);
            draws = desk.brassField(brass, DRAWS);
            highest = desk.highest;
            settings = kind == HORN ? MOST_SETTINGS : kind == SLIDE ? PLACES : 1;
            for (int setting = 0; setting < MOST_SETTINGS; setting++) {
                longer[setting] = kind == SLIDE ? setting * desk.brassField(brass, VALVES) : 0;
            }
            if (kind == HORN) {
                addValves(desk, brass);
            }
        }

        private void addValves(Desk desk, int brass) {
            for (int setting = 0; setting < MOST_SETTINGS; setting++) {
                for (int valve = 0; valve < 3; valve++) {
                    if ((setting >> valve & 1) == 1) {
                        longer[setting] += desk.brassField(brass, VALVES + valve);
                    }
                }
            }
        }

        boolean hasSetting(int setting) {
            return setting >= 0 && setting < settings && setting < MOST_SETTINGS;
        }

        boolean hasPartial(int partial) {
            return partial >= LEAST_PARTIAL && partial <= highest && partial <= MOST_PARTIAL;
        }

        int longerBy(int setting) {
            return setting >= 0 && setting < MOST_SETTINGS ? longer[setting] : 0;
        }

        int flatBy(int more) {
            int divisor = 2 * length + more;
            return divisor > 0 ? 3462 * more / divisor : 0;
        }

        /** How flat a setting has to be, so that the partial is off by nothing. */
        int wantedFlat(int pitch, int partial) {
            int cents = hasPartial(partial) ? PARTIAL_CENTS[partial - LEAST_PARTIAL] : 0;
            return 100 * base + cents - 100 * pitch;
        }

        private int drawsOf(int setting) {
            return kind == HORN && (setting & THIRD_VALVE) != 0 ? draws : 0;
        }

        int drawFor(int setting, int wanted) {
            int most = drawsOf(setting);
            int bestDraw = 0;
            int bestAway = Math.abs(wanted - flatBy(longerBy(setting)));
            for (int draw = 1; draw <= most; draw++) {
                int away = Math.abs(wanted - flatBy(longerBy(setting) + draw));
                if (away < bestAway) {
                    bestDraw = draw;
                    bestAway = away;
                } else if (away > bestAway) {
                    // drawn further it only gets flatter
                    break;
                }
            }
            return bestDraw;
        }

        int offOf(int pitch, int partial, int setting) {
            int wanted = wantedFlat(pitch, partial);
            return wanted - flatBy(longerBy(setting) + drawFor(setting, wanted));
        }

        /** How many cents a partial and a setting are off, without a sign; NONE if that is no way. */
        int awayOf(int pitch, int partial, int setting, int cents) {
            int wanted = wantedFlat(pitch, partial);
            int least = flatBy(longerBy(setting));
            int most = flatBy(longerBy(setting) + drawsOf(setting));
            // most pairs are far off, and need no trying of draws
            if (wanted < least - cents || wanted > most + cents) {
                return NONE;
            }
            int away = Math.abs(wanted - flatBy(longerBy(setting) + drawFor(setting, wanted)));
            return away <= cents ? away : NONE;
        }

        int countWays(int pitch, int cents) {
            int ways = 0;
            for (int setting = 0; setting < settings; setting++) {
                for (int partial = LEAST_PARTIAL; partial <= highest; partial++) {
                    if (awayOf(pitch, partial, setting, cents) != NONE) {
                        ways++;
                    }
                }
            }
            return ways;
        }

        /** Way k as partial * MOST_SETTINGS + setting, or NONE. */
        int nthWay(int pitch, int cents, int k) {
            int ways = 0;
            for (int partial = LEAST_PARTIAL; partial <= highest; partial++) {
                for (int setting = 0; setting < settings; setting++) {
                    if (awayOf(pitch, partial, setting, cents) == NONE) {
                        continue;
                    }
                    if (ways == k) {
                        return partial * MOST_SETTINGS + setting;
                    }
                    ways++;
                }
            }
            return NONE;
        }

        boolean soundsBy(int pitch, int setting, int cents) {
            for (int partial = LEAST_PARTIAL; partial <= highest; partial++) {
                if (awayOf(pitch, partial, setting, cents) != NONE) {
                    return true;
                }
            }
            return false;
        }

        int moveBetween(int setting, int other) {
            if (kind == HORN) {
                return Integer.bitCount(setting ^ other);
            }
            return kind == SLIDE ? Math.abs(setting - other) : 0;
        }

        boolean isSlide() {
            return kind == SLIDE;
        }
    }

    /** The ways of the tones of one part for one player, and the plays through them. */
    private static final class Plays {
        // a way of a pitch, of it an octave up or down: no partial and setting is two of these,
        // as drawing makes less than 800 cents, so a tone has at most 11 * 8 of them
        private static final int WAYS_A_TONE = 88;
        private static final int MOST_WAYS = MOST_TONES * WAYS_A_TONE;
        private static final int FAR = 1000000000;
        // above what 16 tones can be off together
        private static final int COST_UNIT = 10000;

        private static final int FOR_COST = 0;
        private static final int FOR_MOVED = 1;
        private static final int FOR_QUICK = 2;
        private static final int FOR_CENTS = 3;

        int steps;
        int bestCost;
        int bestSour;
        int crackCount;
        int firstCrack;
        private int quick;
        private final Tube tube = new Tube();
        private final int[] moves = new int[Tube.MOST_SETTINGS * Tube.MOST_SETTINGS];
        private final int[] toneOf = new int[MOST_TONES];
        private final int[] pitchOf = new int[MOST_TONES];
        private final int[] gap = new int[MOST_TONES];
        private final int[] tied = new int[MOST_TONES];
        private final int[] from = new int[MOST_TONES + 1];
        private final int[] picked = new int[MOST_TONES];
        private final int[] partial = new int[MOST_WAYS];
        private final int[] setting = new int[MOST_WAYS];
        private final int[] away = new int[MOST_WAYS];
        private final int[] octave = new int[MOST_WAYS];
        private final int[] value = new int[MOST_WAYS];
        private final int[] live = new int[MOST_WAYS];

        void aim(Desk desk, int player, int part) {
            int brass = desk.playerField(player, BRASS);
            tube.aim(desk, brass);
            layMoves();
            quick = desk.playerField(player, QUICK);
            steps = 0;
            for (int i = 0; i < desk.tonesOf(part) && steps < MOST_TONES; i++) {
                if (desk.isSounding(part, i)) {
                    toneOf[steps] = i;
                    pitchOf[steps] = desk.toneField(part, i, PITCH);
                    tied[steps] = desk.toneField(part, i, SLURRED);
                    gap[steps] = 0;
                    steps++;
                }
            }
            for (int s = 0; s + 1 < steps; s++) {
                gap[s] = desk.toneField(part, toneOf[s + 1], BEGINS) - desk.toneField(part, toneOf[s], BEGINS);
                if (toneOf[s + 1] != toneOf[s] + 1) {
                    tied[s] = 0;
                }
            }
        }

        void layWays(int cents, int by) {
            from[0] = 0;
            for (int s = 0; s < steps; s++) {
                from[s + 1] = layPitch(from[s], pitchOf[s] + by, cents, 0);
            }
        }

        void layOctaves(int cents) {
            from[0] = 0;
            for (int s = 0; s < steps; s++) {
                int end = from[s];
                for (int by = -OCTAVE; by <= OCTAVE; by += OCTAVE) {
                    end = layPitch(end, pitchOf[s] + by, cents, by);
                }
                from[s + 1] = end;
            }
        }

        private int layPitch(int begin, int pitch, int cents, int by) {
            if (!isPitch(pitch)) {
                return begin;
            }
            int end = begin;
            for (int p = Tube.LEAST_PARTIAL; p <= tube.highest; p++) {
                for (int set = 0; set < tube.settings && end < MOST_WAYS; set++) {
                    int found = tube.awayOf(pitch, p, set, cents);
                    if (found == NONE) {
                        continue;
                    }
                    partial[end] = p;
                    setting[end] = set;
                    away[end] = found;
                    octave[end] = by;
                    end++;
                }
            }
            return end;
        }

        /** Each pair of ways needs this, and there are many: so it is only looked up. */
        private void layMoves() {
            for (int set = 0; set < tube.settings; set++) {
                for (int other = 0; other < tube.settings; other++) {
                    moves[set * Tube.MOST_SETTINGS + other] = tube.moveBetween(set, other);
                }
            }
        }

        private int moveFrom(int w, int v) {
            return moves[setting[w] * Tube.MOST_SETTINGS + setting[v]];
        }

        /** Whether way v of the step behind step s may follow way w of step s. */
        private boolean goes(int s, int w, int v) {
            int move = moveFrom(w, v);
            if (move > quick * gap[s]) {
                return false;
            }
            if (tied[s] == 0) {
                return true;
            }
            int apart = Math.abs(partial[w] - partial[v]);
            return apart <= 1 && (apart == 0 || move <= 1 || !tube.isSlide());
        }

        /** Sets the value of each way to the least that a play from it on needs; FAR without a play. */
        private void weigh(int aim) {
            for (int s = steps - 1; s >= 0; s--) {
                for (int w = from[s]; w < from[s + 1]; w++) {
                    int behind = leastBehind(s, w, aim);
                    value[w] = behind == FAR ? FAR : withOwn(behind, w, aim);
                }
            }
        }

        private int withOwn(int behind, int w, int aim) {
            switch (aim) {
                case FOR_COST:
                    return behind + away[w];
                case FOR_MOVED:
                    return octave[w] == 0 ? behind : behind + 1;
                case FOR_CENTS:
                    return Math.max(behind, away[w]);
                default:
                    return behind;
            }
        }

        private int leastBehind(int s, int w, int aim) {
            if (s + 1 >= steps) {
                return 0;
            }
            int least = FAR;
            for (int v = from[s + 1]; v < from[s + 2]; v++) {
                if (value[v] < FAR && goes(s, w, v)) {
                    least = Math.min(least, through(s, w, v, aim));
                }
            }
            return least;
        }

        private int through(int s, int w, int v, int aim) {
            int move = moveFrom(w, v);
            if (aim == FOR_COST) {
                return value[v] + move * COST_UNIT;
            }
            if (aim == FOR_QUICK && gap[s] > 0) {
                return Math.max(value[v], (move + gap[s] - 1) / gap[s]);
            }
            return value[v];
        }

        private int leastAtFirst() {
            if (steps == 0) {
                return 0;
            }
            int least = FAR;
            for (int w = from[0]; w < from[1]; w++) {
                least = Math.min(least, value[w]);
            }
            return least;
        }

        boolean findBest() {
            weigh(FOR_COST);
            int least = leastAtFirst();
            if (least == FAR) {
                return false;
            }
            bestCost = least / COST_UNIT;
            bestSour = least % COST_UNIT;
            int left = least;
            for (int s = 0; s < steps; s++) {
                picked[s] = firstWayWith(s, left);
                left = value[picked[s]] - away[picked[s]];
            }
            return true;
        }

        /** The first way of step s by which the play picked so far comes to what is left. */
        private int firstWayWith(int s, int left) {
            for (int w = from[s]; w < from[s + 1]; w++) {
                if (s == 0 && value[w] == left) {
                    return w;
                }
                if (s > 0 && goes(s - 1, picked[s - 1], w) && through(s - 1, picked[s - 1], w, FOR_COST) == left) {
                    return w;
                }
            }
            return Math.min(from[s], MOST_WAYS - 1);
        }

        int leastQuick() {
            int own = quick;
            quick = MOST_QUICK;
            weigh(FOR_QUICK);
            quick = own;
            int least = leastAtFirst();
            return least == FAR ? NONE : least;
        }

        int leastCents() {
            weigh(FOR_CENTS);
            int least = leastAtFirst();
            return least == FAR ? NONE : Math.max(1, least);
        }

        /** How many plays there are, or any number above MOST_PLAYS. */
        int countPlays() {
            for (int s = steps - 1; s >= 0; s--) {
                for (int w = from[s]; w < from[s + 1]; w++) {
                    value[w] = s + 1 < steps ? sumBehind(s, w) : 1;
                }
            }
            if (steps == 0) {
                return 1;
            }
            int sum = 0;
            for (int w = from[0]; w < from[1]; w++) {
                sum = Math.min(MOST_PLAYS + 1, sum + value[w]);
            }
            return sum;
        }

        private int sumBehind(int s, int w) {
            int sum = 0;
            for (int v = from[s + 1]; v < from[s + 2]; v++) {
                if (goes(s, w, v)) {
                    // two such sums still fit into an int
                    sum = Math.min(MOST_PLAYS + 1, sum + value[v]);
                }
            }
            return sum;
        }

        int firstUnreached() {
            for (int s = 0; s < steps; s++) {
                boolean reached = false;
                for (int w = from[s]; w < from[s + 1]; w++) {
                    live[w] = comesTo(s, w) ? 1 : 0;
                    reached |= live[w] == 1;
                }
                if (!reached) {
                    return toneOf[s];
                }
            }
            return NONE;
        }

        /** Whether a live way of the step ahead leads to way w of step s. */
        private boolean comesTo(int s, int w) {
            if (s == 0) {
                return true;
            }
            for (int u = from[s - 1]; u < from[s]; u++) {
                if (live[u] == 1 && goes(s - 1, u, w)) {
                    return true;
                }
            }
            return false;
        }

        /** The fewest moved tones, with the first row of octaves that needs so few; NONE if none do. */
        int findMoved() {
            weigh(FOR_MOVED);
            int fewest = leastAtFirst();
            if (fewest == FAR) {
                return NONE;
            }
            int left = fewest;
            for (int s = 0; s < steps; s++) {
                picked[s] = firstOctave(s, left);
                if (octave[picked[s]] != 0) {
                    left--;
                }
            }
            return fewest;
        }

        /** Several ways may share the first row so far: all of them stay live. */
        private int firstOctave(int s, int left) {
            int first = NONE;
            for (int w = from[s]; w < from[s + 1]; w++) {
                boolean may = value[w] == left && comesTo(s, w);
                if (may && first == NONE) {
                    first = w;
                }
                live[w] = may && octave[w] == octave[first] ? 1 : 0;
            }
            return first == NONE ? Math.min(from[s], MOST_WAYS - 1) : first;
        }

        int stepOf(int tone) {
            for (int s = 0; s < steps; s++) {
                if (toneOf[s] == tone) {
                    return s;
                }
            }
            return NONE;
        }

        int movedAt(int s) {
            return s >= 0 && s < steps ? octave[picked[s]] : NONE;
        }

        int pickedAt(int s, int what) {
            if (s < 0 || s >= steps) {
                return NONE;
            }
            if (what == 0) {
                return partial[picked[s]];
            }
            return what == 1 ? setting[picked[s]] : picked[s] - from[s];
        }

        int countSlurs(int what) {
            int number = 0;
            for (int s = 0; s + 1 < steps; s++) {
                boolean handsMove = moveFrom(picked[s], picked[s + 1]) > 0;
                boolean samePartial = partial[picked[s]] == partial[picked[s + 1]];
                boolean sameSetting = setting[picked[s]] == setting[picked[s + 1]];
                boolean smear = tied[s] == 1 && samePartial && handsMove;
                boolean lips = tied[s] == 1 && sameSetting && !samePartial;
                if (what == 0 && smear || what == 1 && lips || what == 2 && handsMove) {
                    number++;
                }
            }
            return number;
        }

        /** How many numbers of the row, from its first on, are ways that may follow one another. */
        int countRight(Row row) {
            for (int s = 0; s < steps; s++) {
                long way = row.numberAt(s);
                if (way < 0 || way >= from[s + 1] - from[s]) {
                    return s;
                }
                picked[s] = from[s] + (int) way;
                if (s > 0 && !goes(s - 1, picked[s - 1], picked[s])) {
                    return s;
                }
            }
            return steps;
        }

        int costOfPicked() {
            int sum = 0;
            for (int s = 0; s + 1 < steps; s++) {
                sum += moveFrom(picked[s], picked[s + 1]);
            }
            return sum;
        }

        void drawFrom(long seed) {
            long x = seed;
            crackCount = 0;
            firstCrack = NONE;
            for (int s = 0; s < steps; s++) {
                x = (1103515245L * x + 12345L) % 2147483648L;
                if (x / 65536 % 100 < away[picked[s]] + 2 * partial[picked[s]]) {
                    firstCrack = crackCount == 0 ? toneOf[s] : firstCrack;
                    crackCount++;
                }
            }
        }
    }

    /** Where one player breathes. */
    private static final class Lungs {
        private static final int NO_NEED = -1;
        private static final int NO_MARK = -2;

        int taken;
        int bits;

        /**
         * From each rest and from the end backwards the lowest mark that does is taken: no other set is
         * smaller, and of the smallest ones none is less as a number.
         */
        boolean findMarks(Desk desk, int player, int part) {
            int air = desk.playerField(player, AIR);
            taken = 0;
            bits = 0;
            int last = desk.tonesOf(part) - 1;
            for (int n = 0; n <= MOST_TONES && last >= 0; n++) {
                if (desk.isRest(part, last)) {
                    last--;
                    continue;
                }
                int mark = lowestMark(desk, part, last, air);
                if (mark == NO_MARK) {
                    return false;
                }
                if (mark == NO_NEED) {
                    last = firstInRow(desk, part, last) - 1;
                } else {
                    taken++;
                    bits |= 1 << mark;
                    last = mark;
                }
            }
            return true;
        }

        private static int lowestMark(Desk desk, int part, int last, int air) {
            int first = firstInRow(desk, part, last);
            int used = 0;
            int lowest = NO_MARK;
            for (int i = last; i >= first; i--) {
                used += desk.toneField(part, i, BEATS);
                if (used > air) {
                    return lowest;
                }
                if (i > first && desk.toneField(part, i - 1, BREATH) == 1) {
                    lowest = i - 1;
                }
            }
            return NO_NEED;
        }

        private static int firstInRow(Desk desk, int part, int last) {
            int first = last;
            for (int n = 0; n < MOST_TONES && desk.isSounding(part, first - 1); n++) {
                first--;
            }
            return first;
        }

        int firstChoked(Desk desk, int player, int part) {
            int air = desk.playerField(player, AIR);
            int used = 0;
            for (int i = 0; i < desk.tonesOf(part); i++) {
                if (desk.isRest(part, i)) {
                    used = 0;
                    continue;
                }
                used += desk.toneField(part, i, BEATS);
                if (used > air) {
                    return i;
                }
                if (desk.toneField(part, i, BREATH) == 1) {
                    used = 0;
                }
            }
            return NONE;
        }
    }

    /** Up to three players of one part, who leave out tones by turns. */
    private static final class Doubles {
        // tone i has (i + 1) ^ 3 cells: for each player the tone since which he has not breathed
        private static final int CELLS = 136 * 136;
        // above 16 tones that are left out, below what a cell's stamp is multiplied by
        private static final int FAR = 63;
        private static final int STAMP = 64;

        private int size;
        private int length;
        private int stamp;
        private final int[] number = new int[MOST_DOUBLES];
        private final int[] air = new int[MOST_DOUBLES];
        private final int[] before = new int[MOST_TONES + 1];
        private final int[] resting = new int[MOST_TONES];
        private final int[] leaver = new int[MOST_TONES];
        private final int[] known = new int[CELLS];

        void aim(Desk desk, int set, int part) {
            size = 0;
            for (int player = 0; player < desk.players && size < MOST_DOUBLES; player++) {
                if ((set >> player & 1) == 1) {
                    number[size] = player;
                    air[size] = desk.playerField(player, AIR);
                    size++;
                }
            }
            length = desk.tonesOf(part);
            for (int i = 0; i < length && i < MOST_TONES; i++) {
                resting[i] = desk.isRest(part, i) ? 1 : 0;
                before[i + 1] = before[i] + (resting[i] == 1 ? 0 : desk.toneField(part, i, BEATS));
            }
            // cells with an older stamp are of other sets or parts: so they need not be emptied
            stamp++;
        }

        int fewestLeft() {
            int fewest = fewestFrom(0, 0, 0, 0);
            return fewest >= FAR ? NONE : fewest;
        }

        boolean findOrder() {
            int left = fewestFrom(0, 0, 0, 0);
            if (left >= FAR) {
                return false;
            }
            int a = 0;
            int b = 0;
            int c = 0;
            for (int i = 0; i < length && i < MOST_TONES; i++) {
                int who = firstLeaver(i, a, b, c, left);
                leaver[i] = who >= 0 && who < size ? number[who] : NONE;
                a = resting[i] == 1 || who == 0 ? i + 1 : a;
                b = resting[i] == 1 || who == 1 ? i + 1 : b;
                c = resting[i] == 1 || who == 2 ? i + 1 : c;
                left = who == NONE ? left : left - 1;
            }
            return true;
        }

        private int firstLeaver(int i, int a, int b, int c, int left) {
            if (resting[i] == 1) {
                return NONE;
            }
            for (int who = NONE; who < mostLeaving(); who++) {
                if (fewestWith(i, a, b, c, who) == left) {
                    return who;
                }
            }
            return NONE;
        }

        int leaverOf(int i) {
            return i >= 0 && i < length && i < MOST_TONES ? leaver[i] : NONE;
        }

        private int mostLeaving() {
            return size > 1 ? size : 0;
        }

        /** The fewest tones left out from tone i on, if the players last breathed ahead of tones a, b, c. */
        private int fewestFrom(int i, int a, int b, int c) {
            if (i >= length || i >= MOST_TONES) {
                return 0;
            }
            int cell = cellOf(i, a, b, c);
            if (cell < 0 || cell >= CELLS) {
                return FAR;
            }
            if (known[cell] / STAMP == stamp) {
                return known[cell] % STAMP;
            }
            int fewest = FAR;
            if (resting[i] == 1) {
                fewest = fewestFrom(i + 1, i + 1, i + 1, i + 1);
            } else {
                // where nobody need leave one out, nothing better is to be sought
                for (int who = NONE; who < mostLeaving() && fewest > 0; who++) {
                    fewest = Math.min(fewest, fewestWith(i, a, b, c, who));
                }
            }
            known[cell] = stamp * STAMP + fewest;
            return fewest;
        }

        private static int cellOf(int i, int a, int b, int c) {
            int ahead = i * (i + 1) / 2;
            return ahead * ahead + (a * (i + 1) + b) * (i + 1) + c;
        }

        private int fewestWith(int i, int a, int b, int c, int who) {
            boolean air0 = who == 0 || airDoes(0, a, i);
            boolean air1 = who == 1 || airDoes(1, b, i);
            boolean air2 = who == 2 || airDoes(2, c, i);
            if (!air0 || !air1 || !air2) {
                return FAR;
            }
            int behind = fewestFrom(i + 1, who == 0 ? i + 1 : a, who == 1 ? i + 1 : b, who == 2 ? i + 1 : c);
            if (behind >= FAR) {
                return FAR;
            }
            return who == NONE ? behind : behind + 1;
        }

        private boolean airDoes(int k, int since, int i) {
            if (k >= size || since < 0 || since > i) {
                return true;
            }
            return before[i + 1] - before[since] <= air[k];
        }
    }

    /** One player for each part, none twice. */
    private static final class Sharing {
        private final int[] costs = new int[MOST_PLAYERS * MOST_PARTS];
        private final int[] now = new int[MOST_PARTS];
        private final int[] chosenRow = new int[MOST_PARTS];

        /** NONE as a cost: the player can't play the part. */
        void setCost(int player, int part, int cost) {
            if (player >= 0 && player < MOST_PLAYERS && part >= 0 && part < MOST_PARTS) {
                costs[player * MOST_PARTS + part] = cost;
            }
        }

        int playerOf(int part) {
            return part >= 0 && part < MOST_PARTS ? chosenRow[part] : NONE;
        }

        /** The least cost together, with the first row that has it; NONE if there is no row. */
        int findLeast(int players, int parts) {
            int rows = 1;
            for (int part = 0; part < parts; part++) {
                rows *= players;
            }
            int least = NONE;
            for (int code = 0; code < rows; code++) {
                int cost = costOfRow(code, players, parts);
                if (cost != NONE && (least == NONE || cost < least)) {
                    least = cost;
                    System.arraycopy(now, 0, chosenRow, 0, MOST_PARTS);
                }
            }
            return least;
        }

        private int costOfRow(int code, int players, int parts) {
            int rest = code;
            int sum = 0;
            int used = 0;
            // the last part's player changes fastest, so that rows come in their order
            for (int part = Math.min(parts, MOST_PARTS) - 1; part >= 0 && players > 0; part--) {
                now[part] = rest % players;
                rest /= players;
                int cost = costs[now[part] * MOST_PARTS + part];
                if (cost == NONE || (used >> now[part] & 1) == 1) {
                    return NONE;
                }
                used |= 1 << now[part];
                sum += cost;
            }
            return sum;
        }
    }

    /** What a slot has. */
    private static final class Row {
        boolean there;
        int width;
        int length;
        final long[] numbers = new long[MOST_NUMBERS];

        void renew(int newWidth, int n) {
            there = true;
            width = newWidth;
            length = n;
            for (int i = 0; i < MOST_NUMBERS; i++) {
                numbers[i] = 0;
            }
        }

        long numberAt(int i) {
            return i >= 0 && i < length && i < MOST_NUMBERS ? numbers[i] : NONE;
        }

        boolean holds(int first, int n) {
            return first >= 0 && n >= 0 && (long) first + n <= length;
        }

        boolean setCut(int i, long v) {
            if (i < 0 || i >= length || i >= MOST_NUMBERS) {
                return false;
            }
            switch (width) {
                case 0:
                    numbers[i] = (byte) v;
                    break;
                case 1:
                    numbers[i] = (short) v;
                    break;
                case 2:
                    numbers[i] = (int) v;
                    break;
                default:
                    numbers[i] = v;
                    break;
            }
            return true;
        }
    }
}
