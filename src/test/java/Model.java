import java.util.ArrayDeque;
import java.util.ArrayList;
import java.util.Comparator;
import java.util.Deque;
import java.util.List;

/** The document told again in the slowest and plainest way, for ModelTest to compare with. */
final class Model {
    static final int BAD = -1, STATE = -2, FULL = -3, NONE = -9, NO = -1000000;

    private static final class Barrel {
        int kind, floor, laid, number;
        int drops, strength;
        int[] parts = new int[3];

        Barrel copy() {
            Barrel b = new Barrel();
            b.kind = kind;
            b.floor = floor;
            b.laid = laid;
            b.number = number;
            b.drops = drops;
            b.strength = strength;
            b.parts = parts.clone();
            return b;
        }
    }

    private record Reading(int nose, int sample, int v) { }

    private final List<Barrel> barrels = new ArrayList<>();
    private final List<Reading> readings = new ArrayList<>();
    private final int[] want = {0, 0, 0, 9999, 0, 9999, 0, 9999};
    private int now = 0;
    private int rate = 28;
    private long trace = 0;

    private static boolean out(int v, int from, int to) {
        return v < from || v > to;
    }

    private boolean noCask(int cask) {
        return out(cask, 0, barrels.size() - 1);
    }

    private static int up(long a, long b) {
        return (int) (a / b + (a % b == 0 ? 0 : 1));
    }

    int lay(int kind, int drops, int strength, int floor, int smoke) {
        if (out(kind, 0, 2) || out(drops, 1, 9000) || out(strength, 400, 700) || out(floor, 0, 3)
                || out(smoke, 0, 500)) {
            return BAD;
        }
        if (barrels.size() == 12) {
            return FULL;
        }
        Barrel b = new Barrel();
        b.kind = kind;
        b.drops = drops;
        b.strength = strength;
        b.floor = floor;
        b.parts[1] = smoke;
        b.laid = now;
        b.number = barrels.size();
        barrels.add(b);
        return b.number;
    }

    private static int lossOf(int kind, int floor, int k) {
        if (kind == 2) {
            int above = lossOf(1, floor, k);
            return above - 4 < 1 ? 1 : above - 4;
        }
        if (kind == 1) {
            return 3 * lossOf(0, floor, k) / 4;
        }
        int part = 20 - 2 * k;
        return 15 + 5 * floor + (part < 0 ? 0 : part);
    }

    private static void year(List<Barrel> all, int now) {
        for (Barrel b : all) {
            if (b.drops == 0) {
                continue;
            }
            int loss = lossOf(b.kind, b.floor, now - b.laid);
            b.drops -= up((long) b.drops * loss, 1000);
            if (loss > 10) {
                b.parts[0] += loss - 10;
            }
            b.parts[1] = b.parts[1] * 9 / 10;
            b.parts[2] += new int[] {6, 4, 2}[b.kind];
            b.strength = b.strength < 403 ? 400 : b.strength - 3;
        }
    }

    int years(int n) {
        if (out(n, 1, 30)) {
            return BAD;
        }
        if (now > 60 - n) {
            return STATE;
        }
        for (int i = 0; i < n; i++) {
            year(barrels, now);
            now++;
        }
        return now;
    }

    int loss(int cask, int kind, int k) {
        if (noCask(cask) || out(kind, 0, 2) || out(k, 0, 60)) {
            return BAD;
        }
        long body = 1;
        for (int i = 0; i <= kind; i++) {
            trace += body;
            body *= 10;
        }
        return lossOf(kind, barrels.get(cask).floor, k);
    }

    private int cost(Barrel b) {
        return up((20L + 3L * (now - b.laid)) * b.drops, 100);
    }

    int about(int cask, int what) {
        if (noCask(cask) || out(what, 0, 8)) {
            return BAD;
        }
        Barrel b = barrels.get(cask);
        int[] all = {b.drops, b.strength, now - b.laid, b.parts[0], b.parts[1], b.parts[2], b.kind, b.floor, cost(b)};
        return all[what];
    }

    int move(int cask, int floor) {
        if (noCask(cask) || out(floor, 0, 3)) {
            return BAD;
        }
        int was = barrels.get(cask).floor;
        barrels.get(cask).floor = floor;
        return was;
    }

    int draw(int cask, int n) {
        if (noCask(cask) || out(n, 0, barrels.get(cask).drops)) {
            return BAD;
        }
        return barrels.get(cask).drops -= n;
    }

    int want(int what, int v) {
        if (out(what, 0, 7) || out(v, 0, what == 0 ? 99999 : what == 1 ? 60 : 9999)) {
            return BAD;
        }
        int was = want[what];
        want[what] = v;
        return was;
    }

    /** What blend() answers for each what; null, if the set is no BLEND. */
    private int[] blendOf(int set) {
        if (set <= 0 || set >= 1 << barrels.size()) {
            return null;
        }
        long drops = 0, strength = 0;
        long[] parts = new long[3];
        int age = Integer.MAX_VALUE, cost = 0;
        for (Barrel b : barrels) {
            if ((set & 1 << b.number) == 0) {
                continue;
            }
            if (b.drops == 0) {
                return null;
            }
            drops += b.drops;
            strength += (long) b.drops * b.strength;
            for (int p = 0; p < 3; p++) {
                parts[p] += (long) b.drops * b.parts[p];
            }
            age = Math.min(age, now - b.laid);
            cost += cost(b);
        }
        boolean right = drops >= want[0] && age >= want[1];
        for (int p = 0; p < 3; p++) {
            right &= parts[p] / drops >= want[2 + 2 * p] && parts[p] / drops <= want[3 + 2 * p];
        }
        return new int[] {(int) drops, (int) (strength / drops), age, (int) (parts[0] / drops),
            (int) (parts[1] / drops), (int) (parts[2] / drops), cost, right ? 1 : 0};
    }

    int blend(int set, int what) {
        int[] all = blendOf(set);
        return all == null || out(what, 0, 7) ? BAD : all[what];
    }

    int best(int what) {
        if (out(what, 0, 1)) {
            return BAD;
        }
        int found = NONE, least = NONE;
        for (int set = (1 << barrels.size()) - 1; set > 0; set--) {
            int[] all = blendOf(set);
            if (all != null && all[7] == 1 && (found == NONE || all[6] <= least)) {
                found = set;
                least = all[6];
            }
        }
        return what == 0 ? found : least;
    }

    int lasts(int w, int a) {
        if (out(w, 1, 9999) || out(a, 0, 60)) {
            return BAD;
        }
        List<Barrel> copies = new ArrayList<>();
        for (Barrel b : barrels) {
            copies.add(b.copy());
        }
        copies.sort(Comparator.<Barrel>comparingInt(b -> b.laid).thenComparingInt(b -> b.number));
        for (int then = now; then < now + 30; then++) {
            int year = then;
            List<Barrel> old = copies.stream().filter(b -> year - b.laid >= a).toList();
            if (old.stream().mapToInt(b -> b.drops).sum() < w) {
                return then - now;
            }
            for (int drop = 0; drop < w; drop++) {
                old.stream().filter(b -> b.drops > 0).findFirst().ifPresent(b -> b.drops--);
            }
            year(copies, then);
        }
        return 30;
    }

    int cut(int cask, int t) {
        if (noCask(cask) || out(t, 300, 700)) {
            return BAD;
        }
        Barrel b = barrels.get(cask);
        return b.strength <= t ? 0 : up((long) b.drops * (b.strength - t), t);
    }

    int rate(int v) {
        if (out(v, 0, 100)) {
            return BAD;
        }
        int was = rate;
        rate = v;
        return was;
    }

    int duty(int set) {
        if (set < 0 || set >= 1 << barrels.size()) {
            return BAD;
        }
        int sum = 0;
        for (Barrel b : barrels) {
            sum += (set >> b.number) % 2 == 1 ? b.drops * b.strength / 1000 * rate : 0;
        }
        return sum;
    }

    /** By one try after another: of a try's three ways one is right. */
    private static long waysOf(int n, int c) {
        if (n == 0) {
            return c <= 0 ? 1 : 0;
        }
        return c <= 0 ? 3 * waysOf(n - 1, 0) : waysOf(n - 1, c - 1) + 2 * waysOf(n - 1, c);
    }

    long odds(int n, int c) {
        return out(n, 1, 20) || out(c, 0, n) ? -1 : waysOf(n, c);
    }

    int apart(int n, int c) {
        return out(n, 1, 20) || out(c, 0, n) ? BAD : waysOf(n, c) <= waysOf(n, 0) / 20.0 ? 1 : 0;
    }

    int read(int nose, int sample, int v) {
        if (out(nose, 0, 5) || out(sample, 0, 9) || out(v, 0, 99)) {
            return BAD;
        }
        if (readings.size() == 30) {
            return FULL;
        }
        readings.add(new Reading(nose, sample, v));
        return readings.size();
    }

    int clear() {
        int were = readings.size();
        readings.clear();
        return were;
    }

    /** OFFSETS that the first n READINGS give from one NOSE's being 0 (null: not tied to it). */
    private Integer[] offsets(int n, int from) {
        Integer[] offset = new Integer[6];
        Integer[] truth = new Integer[10];
        Deque<Integer> open = new ArrayDeque<>();
        offset[from] = 0;
        open.add(from);
        while (!open.isEmpty()) {
            int nose = open.remove();
            for (Reading r : readings.subList(0, n)) {
                if (r.nose != nose || truth[r.sample] != null) {
                    continue;
                }
                truth[r.sample] = r.v - offset[nose];
                for (Reading s : readings.subList(0, n)) {
                    if (s.sample == r.sample && offset[s.nose] == null) {
                        offset[s.nose] = s.v - truth[r.sample];
                        open.add(s.nose);
                    }
                }
            }
        }
        for (Reading r : readings.subList(0, n)) {
            if (offset[r.nose] != null && offset[r.nose] + truth[r.sample] != r.v) {
                return null;
            }
        }
        return offset;
    }

    int contradicts() {
        for (int n = 1; n <= readings.size(); n++) {
            for (int nose = 0; nose < 6; nose++) {
                if (offsets(n, nose) == null) {
                    return n - 1;
                }
            }
        }
        return NONE;
    }

    int hang(int one, int other, int what) {
        if (out(one, 0, 5) || out(other, 0, 5) || out(what, 0, 1)) {
            return NO - 1;
        }
        int first = contradicts();
        Integer by = offsets(first == NONE ? readings.size() : first, other)[one];
        if (what == 0) {
            return by == null ? 0 : 1;
        }
        return by == null ? NO : by;
    }

    int count(int what) {
        int drops = barrels.stream().mapToInt(b -> b.drops).sum();
        int full = (int) barrels.stream().filter(b -> b.drops > 0).count();
        int[] all = {now, barrels.size(), full, readings.size(), rate, drops};
        return out(what, 0, 5) ? BAD : all[what];
    }

    long trace() {
        return trace;
    }
}
