/** A store of casks, their blends, and the noses that tell samples of them. */
public final class CaskBook {
    public static final int BAD = -1, STATE = -2, FULL = -3, NONE = -9;
    public static final int NO = -1000000;

    private static final int FRESH = 0, USED = 1, TIRED = 2;
    private static final int PARTS = 3;
    private static final int NOSES = 6, SAMPLES = 10;
    private static final int MOST_CASKS = 12, MOST_READINGS = 30;
    private static final int MOST_DROPS = 9000, MOST_SMOKE = 500, TOP_FLOOR = 3;
    private static final int LEAST_STRENGTH = 400, MOST_STRENGTH = 700, LEAST_CUT = 300;
    private static final int LAST_YEAR = 60, MOST_YEARS_AT_ONCE = 30, MOST_LASTING = 30;
    private static final int MOST_WANTED_A_YEAR = 9999;
    private static final int FIRST_RATE = 28, MOST_RATE = 100;
    private static final int MOST_TRIES = 20, DOUBT = 20;

    /** By KIND: a KIND asks those over it too, so their marks are in its own. */
    private static final int[] TRACE_MARKS = {1, 11, 111};

    /** Every place is filled from the start, so that none is ever null. */
    private final Cask[] casks = new Cask[MOST_CASKS];
    /** DROPS by CASK while lasts() looks ahead; the CASKS themselves stay as they are. */
    private final int[] ahead = new int[MOST_CASKS];
    private final Want wanted = new Want();
    private final Mix mix = new Mix();
    private final Scale scale = new Scale();
    private int laid = 0;
    private int now = 0;
    private int dutyRate = FIRST_RATE;
    private long traced = 0;

    public CaskBook() {
        for (int i = 0; i < MOST_CASKS; i++) {
            casks[i] = new Cask();
        }
    }

    // ---- casks

    public int lay(int kind, int drops, int strength, int floor, int smoke) {
        if (!isWithin(kind, FRESH, TIRED) || !isWithin(drops, 1, MOST_DROPS)
                || !isWithin(strength, LEAST_STRENGTH, MOST_STRENGTH)
                || !isWithin(floor, 0, TOP_FLOOR) || !isWithin(smoke, 0, MOST_SMOKE)) {
            return BAD;
        }
        if (laid >= MOST_CASKS) {
            return FULL;
        }
        casks[laid].fill(kind, drops, strength, floor, smoke, now);
        laid++;
        return laid - 1;
    }

    public int years(int n) {
        if (!isWithin(n, 1, MOST_YEARS_AT_ONCE)) {
            return BAD;
        }
        if (now + n > LAST_YEAR) {
            return STATE;
        }
        for (int i = 0; i < n; i++) {
            passYear();
        }
        return now;
    }

    public int loss(int cask, int kind, int k) {
        if (!isCask(cask) || !isWithin(kind, FRESH, TIRED) || !isWithin(k, 0, LAST_YEAR)) {
            return BAD;
        }
        traced += TRACE_MARKS[kind];
        return lossBy(kind, casks[cask].floor, k);
    }

    public int about(int cask, int what) {
        if (!isCask(cask)) {
            return BAD;
        }
        Cask it = casks[cask];
        switch (what) {
            case 0: return it.drops;
            case 1: return it.strength;
            case 2: return it.age(now);
            case 3: return it.oak;
            case 4: return it.smoke;
            case 5: return it.sweet;
            case 6: return it.kind;
            case 7: return it.floor;
            case 8: return it.cost(now);
            default: return BAD;
        }
    }

    public int move(int cask, int floor) {
        if (!isCask(cask) || !isWithin(floor, 0, TOP_FLOOR)) {
            return BAD;
        }
        int was = casks[cask].floor;
        casks[cask].floor = floor;
        return was;
    }

    public int draw(int cask, int n) {
        if (!isCask(cask) || !isWithin(n, 0, casks[cask].drops)) {
            return BAD;
        }
        casks[cask].drops -= n;
        return casks[cask].drops;
    }

    // ---- blends

    public int want(int what, int v) {
        if (!isWithin(what, 0, Want.LAST) || !isWithin(v, 0, Want.most(what))) {
            return BAD;
        }
        int was = wanted.limits[what];
        wanted.limits[what] = v;
        return was;
    }

    public int blend(int set, int what) {
        if (!isSet(set) || !gather(set)) {
            return BAD;
        }
        switch (what) {
            case 0: return mix.drops;
            case 1: return mix.evenly(mix.strengths);
            case 2: return mix.age;
            case 3: return mix.evenly(mix.oaks);
            case 4: return mix.evenly(mix.smokes);
            case 5: return mix.evenly(mix.sweets);
            case 6: return mix.cost;
            case 7: return wanted.isMetBy(mix) ? 1 : 0;
            default: return BAD;
        }
    }

    public int best(int what) {
        if (!isWithin(what, 0, 1)) {
            return BAD;
        }
        int set = bestSet();
        if (what == 0 || set == NONE) {
            return set;
        }
        return gather(set) ? mix.cost : NONE;
    }

    public int lasts(int w, int a) {
        if (!isWithin(w, 1, MOST_WANTED_A_YEAR) || !isWithin(a, 0, LAST_YEAR)) {
            return BAD;
        }
        for (int i = 0; i < laid; i++) {
            ahead[i] = casks[i].drops;
        }
        for (int year = 0; year < MOST_LASTING; year++) {
            if (!takeAhead(w, a, now + year)) {
                return year;
            }
            passYearAhead(now + year);
        }
        return MOST_LASTING;
    }

    public int cut(int cask, int t) {
        if (!isCask(cask) || !isWithin(t, LEAST_CUT, MOST_STRENGTH)) {
            return BAD;
        }
        int above = Math.max(0, casks[cask].strength - t);
        return dividedUp(casks[cask].drops * above, t);
    }

    public int rate(int v) {
        if (!isWithin(v, 0, MOST_RATE)) {
            return BAD;
        }
        int was = dutyRate;
        dutyRate = v;
        return was;
    }

    public int duty(int set) {
        if (!isSet(set)) {
            return BAD;
        }
        int sum = 0;
        for (int i = 0; i < laid; i++) {
            if (holds(set, i)) {
                sum += casks[i].drops * casks[i].strength / 1000 * dutyRate;
            }
        }
        return sum;
    }

    // ---- samples, noses

    public long odds(int n, int c) {
        return isTriangle(n, c) ? ways(n, c) : BAD;
    }

    public int apart(int n, int c) {
        if (!isTriangle(n, c)) {
            return BAD;
        }
        return DOUBT * ways(n, c) <= ways(n, 0) ? 1 : 0;
    }

    public int read(int nose, int sample, int v) {
        if (!isNose(nose) || !isWithin(sample, 0, SAMPLES - 1) || !isWithin(v, 0, 99)) {
            return BAD;
        }
        if (scale.readings >= MOST_READINGS) {
            return FULL;
        }
        scale.take(nose, sample, v);
        return scale.readings;
    }

    public int clear() {
        int were = scale.readings;
        scale.reset();
        return were;
    }

    public int contradicts() {
        return scale.contradiction;
    }

    public int hang(int one, int other, int what) {
        if (!isNose(one) || !isNose(other) || !isWithin(what, 0, 1)) {
            return NO - 1;
        }
        boolean tied = scale.ties(one, other);
        if (what == 0) {
            return tied ? 1 : 0;
        }
        return tied ? scale.height[one] - scale.height[other] : NO;
    }

    public int count(int what) {
        switch (what) {
            case 0: return now;
            case 1: return laid;
            case 2: return notEmpty();
            case 3: return scale.readings;
            case 4: return dutyRate;
            case 5: return allDrops();
            default: return BAD;
        }
    }

    public long trace() {
        return traced;
    }

    // ---- what the calls share

    private static boolean isWithin(int v, int from, int to) {
        return v >= from && v <= to;
    }

    private boolean isCask(int cask) {
        return isWithin(cask, 0, laid - 1);
    }

    private boolean isSet(int set) {
        return isWithin(set, 0, (1 << laid) - 1);
    }

    private static boolean holds(int set, int cask) {
        return (set >> cask & 1) == 1;
    }

    private static boolean isNose(int nose) {
        return isWithin(nose, 0, NOSES - 1);
    }

    private static boolean isTriangle(int n, int c) {
        return isWithin(n, 1, MOST_TRIES) && isWithin(c, 0, n);
    }

    private static int dividedUp(int amount, int by) {
        return by < 1 ? 0 : (amount + by - 1) / by;
    }

    /** LOSS: each KIND but FRESH starts from what the one over it does. */
    private static int lossBy(int kind, int floor, int k) {
        int fresh = 15 + 5 * floor + Math.max(0, 20 - 2 * k);
        if (kind == FRESH) {
            return fresh;
        }
        int used = fresh * 3 / 4;
        return kind == USED ? used : Math.max(1, used - 4);
    }

    private static int lostOf(int drops, int loss) {
        return dividedUp(drops * loss, 1000);
    }

    private void passYear() {
        for (int i = 0; i < laid; i++) {
            if (casks[i].drops > 0) {
                casks[i].passYear(now);
            }
        }
        now++;
    }

    private int notEmpty() {
        int sum = 0;
        for (int i = 0; i < laid; i++) {
            if (casks[i].drops > 0) {
                sum++;
            }
        }
        return sum;
    }

    private int allDrops() {
        int sum = 0;
        for (int i = 0; i < laid; i++) {
            sum += casks[i].drops;
        }
        return sum;
    }

    /** Brings a set's CASKS to mix; false, if the set is no BLEND. */
    private boolean gather(int set) {
        mix.start();
        for (int i = 0; i < laid; i++) {
            if (holds(set, i)) {
                if (casks[i].drops < 1) {
                    return false;
                }
                mix.add(casks[i], now);
            }
        }
        return mix.drops > 0;
    }

    /**
     * Sets go by in rising order, so of several with the same COST the least number stays.
     * The sets from one up to its lowest bit more hold all its CASKS and some below that bit:
     * where it is too dear, too young or no BLEND so are they, and the search steps over them.
     */
    private int bestSet() {
        int found = NONE;
        int least = 0;
        int end = 1 << laid;
        int step = 1;
        for (int set = 1; set < end; set += step) {
            step = set & -set;
            boolean isBlend = gather(set);
            boolean isTooDear = found != NONE && mix.cost >= least;
            if (!isBlend || isTooDear || !wanted.isOldEnough(mix)) {
                continue;
            }
            if (wanted.isMetBy(mix)) {
                found = set;
                least = mix.cost;
            } else {
                step = 1;
            }
        }
        return found;
    }

    /** CASKS are numbered as they are laid, so their numbers' order is the oldest first. */
    private boolean takeAhead(int w, int a, int year) {
        int missing = w;
        for (int i = 0; i < laid; i++) {
            if (casks[i].age(year) >= a) {
                int taken = Math.min(missing, ahead[i]);
                ahead[i] -= taken;
                missing -= taken;
            }
        }
        return missing == 0;
    }

    private void passYearAhead(int year) {
        for (int i = 0; i < laid; i++) {
            ahead[i] -= lostOf(ahead[i], casks[i].lossIn(year));
        }
    }

    /** ODDS: from all n right down to c right, each count's ways made from those of one more. */
    private static long ways(int n, int c) {
        long exactly = 1;
        long sum = 1;
        for (int right = n; right > c; right--) {
            int wrong = n - right + 1;
            if (wrong > 0) {
                exactly = exactly * 2 * right / wrong;
            }
            sum += exactly;
        }
        return sum;
    }

    private static final class Cask {
        int kind, drops, strength, floor;
        int oak, smoke, sweet;
        int laidIn;

        void fill(int kind, int drops, int strength, int floor, int smoke, int now) {
            this.kind = kind;
            this.drops = drops;
            this.strength = strength;
            this.floor = floor;
            this.smoke = smoke;
            this.laidIn = now;
        }

        int age(int now) {
            return now - laidIn;
        }

        int cost(int now) {
            return dividedUp((20 + 3 * age(now)) * drops, 100);
        }

        int lossIn(int year) {
            return lossBy(kind, floor, age(year));
        }

        void passYear(int now) {
            int loss = lossIn(now);
            drops -= lostOf(drops, loss);
            oak += Math.max(0, loss - 10);
            smoke -= dividedUp(smoke, 10);
            sweet += 6 - 2 * kind;
            strength = Math.max(LEAST_STRENGTH, strength - 3);
        }
    }

    /** What a BLEND is made of: sums of DROPS times a thing, until evenly() divides them. */
    private static final class Mix {
        int drops, strengths, oaks, smokes, sweets;
        int cost;
        int age;

        void start() {
            drops = 0;
            strengths = 0;
            oaks = 0;
            smokes = 0;
            sweets = 0;
            cost = 0;
            age = LAST_YEAR;
        }

        void add(Cask cask, int now) {
            drops += cask.drops;
            strengths += cask.drops * cask.strength;
            oaks += cask.drops * cask.oak;
            smokes += cask.drops * cask.smoke;
            sweets += cask.drops * cask.sweet;
            cost += cask.cost(now);
            age = Math.min(age, cask.age(now));
        }

        int evenly(int sum) {
            return drops < 1 ? 0 : sum / drops;
        }
    }

    private static final class Want {
        static final int LAST = 1 + 2 * PARTS;

        /** As want() numbers them: DROPS, AGE, then from and to of each PART. */
        final int[] limits = {0, 0, 0, 9999, 0, 9999, 0, 9999};

        static int most(int what) {
            if (what == 0) {
                return 99999;
            }
            return what == 1 ? LAST_YEAR : 9999;
        }

        boolean isOldEnough(Mix mix) {
            return mix.age >= limits[1];
        }

        boolean isMetBy(Mix mix) {
            return mix.drops >= limits[0] && isOldEnough(mix)
                    && isWithin(mix.evenly(mix.oaks), limits[2], limits[3])
                    && isWithin(mix.evenly(mix.smokes), limits[4], limits[5])
                    && isWithin(mix.evenly(mix.sweets), limits[6], limits[7]);
        }
    }

    /**
     * What READINGS fix. A NOSE's height is its OFFSET, a SAMPLE's is 0 less its TRUTH: so each
     * READING is a difference of two heights, and heights are fixed but for one shift a group.
     */
    private static final class Scale {
        final int[] group = new int[NOSES + SAMPLES];
        final int[] height = new int[NOSES + SAMPLES];
        int readings;
        int contradiction;

        Scale() {
            reset();
        }

        void reset() {
            for (int i = 0; i < NOSES + SAMPLES; i++) {
                group[i] = i;
                height[i] = 0;
            }
            readings = 0;
            contradiction = NONE;
        }

        boolean ties(int one, int other) {
            return group[one] == group[other];
        }

        /** READINGS behind one that CONTRADICTS count, but fix nothing. */
        void take(int nose, int sample, int v) {
            if (contradiction == NONE) {
                fit(nose, NOSES + sample, v);
            }
            readings++;
        }

        private void fit(int nose, int place, int v) {
            int excess = height[nose] - height[place] - v;
            if (!ties(nose, place)) {
                join(group[nose], group[place], excess);
            } else if (excess != 0) {
                contradiction = readings;
            }
        }

        private void join(int from, int into, int excess) {
            for (int i = 0; i < NOSES + SAMPLES; i++) {
                if (group[i] == from) {
                    group[i] = into;
                    height[i] -= excess;
                }
            }
        }
    }
}
