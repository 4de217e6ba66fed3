import java.util.Random;

/** All promises: runs of 512 calls, the most an object is used for, each answer compared with the model's. */
public final class ModelTest {
    private static final int RUNS = 500, CALLS = 512;
    private static final int[] FAR = {Integer.MIN_VALUE, Integer.MAX_VALUE, -1, 1 << 12, 1 << 31 | 1, 100000};
    private static final Expect expect = new Expect();

    private final Random random;
    private final CaskBook book = new CaskBook();
    private final Model model = new Model();
    private final String name;
    /** Offsets and truths that most of a run's readings keep to. */
    private final int[] heights = new int[16];
    private final boolean slow, steady;
    private final int mostDrops;

    private ModelTest(int run) {
        random = new Random(run);
        name = "run " + run;
        slow = run % 2 == 0;
        steady = run % 3 != 0;
        mostDrops = run % 4 == 1 ? 60 : 9000;
        for (int i = 0; i < 16; i++) {
            heights[i] = random.nextInt(50);
        }
    }

    public static void main(String[] args) {
        for (int run = 0; run < RUNS; run++) {
            ModelTest test = new ModelTest(run);
            for (int call = 0; call < CALLS; call++) {
                test.anyCall();
            }
        }
        expect.finish();
    }

    /** Mostly from .. to, at times an edge, one beyond it or a number far out. */
    private int number(int from, int to) {
        int way = random.nextInt(40);
        switch (way) {
            case 0: return from - 1;
            case 1: return to + 1;
            case 2: return FAR[random.nextInt(FAR.length)];
            case 3: return from;
            case 4: return to;
            default: return to < from ? from : from + random.nextInt(to - from + 1);
        }
    }

    private int cask() {
        return number(0, model.count(1) - 1);
    }

    private int set() {
        int all = (1 << model.count(1)) - 1;
        int set = number(0, all);
        if (random.nextInt(4) == 0 || set < 0 || set > all) {
            return set;
        }
        for (int i = 0; i < model.count(1); i++) {
            if (model.about(i, 0) == 0) {
                set &= ~(1 << i);
            }
        }
        return set;
    }

    private void due(String call, long want, long got) {
        expect.due(name + " " + call, want, got);
    }

    /** One call of the object, whichever it is. */
    private void anyCall() {
        int way = random.nextInt(32);
        if (way < 18) {
            caskOrBlendCall(way);
        } else {
            noseCall(way);
        }
    }

    private void caskOrBlendCall(int way) {
        switch (way) {
            case 0: lay(); break;
            case 1: years(); break;
            case 2: loss(); break;
            case 3: case 4: case 5: about(); break;
            case 6: move(); break;
            case 7: draw(); break;
            case 8: case 9: want(); break;
            case 10: case 11: case 12: blend(); break;
            case 13: best(); break;
            case 14: lasts(); break;
            case 15: cut(); break;
            case 16: rate(); break;
            default: duty(); break;
        }
    }

    private void noseCall(int way) {
        switch (way) {
            case 18: odds(); break;
            case 19: apart(); break;
            case 20: case 21: case 22: hang(); break;
            case 23: case 24: due("contradicts", model.contradicts(), book.contradicts()); break;
            case 25: count(); break;
            case 26: due("trace", model.trace(), book.trace()); break;
            case 27: clearOrRead(); break;
            default: read(); break;
        }
    }

    private void lay() {
        int kind = number(0, 2), drops = number(1, mostDrops), strength = number(400, 700);
        int floor = number(0, 3), smoke = number(0, 500);
        due("lay", model.lay(kind, drops, strength, floor, smoke), book.lay(kind, drops, strength, floor, smoke));
    }

    private void years() {
        int n = slow ? number(1, 2) : number(1, 30);
        due("years " + n, model.years(n), book.years(n));
    }

    private void loss() {
        int cask = cask(), kind = number(0, 2), k = number(0, 60);
        due("loss", model.loss(cask, kind, k), book.loss(cask, kind, k));
    }

    private void about() {
        int cask = cask(), what = number(0, 8);
        due("about", model.about(cask, what), book.about(cask, what));
    }

    private void move() {
        int cask = cask(), floor = number(0, 3);
        due("move", model.move(cask, floor), book.move(cask, floor));
    }

    private void draw() {
        int cask = cask();
        int has = Math.max(0, model.about(cask, 0));
        int n = random.nextInt(8) == 0 ? has : number(0, slow ? has / 8 : has);
        due("draw", model.draw(cask, n), book.draw(cask, n));
    }

    private void want() {
        int what = number(0, 7);
        int v;
        switch (what) {
            case 0: v = random.nextInt(4) == 0 ? number(0, 99999) : number(0, model.count(5)); break;
            case 1: v = random.nextInt(4) == 0 ? number(0, 60) : number(0, 3); break;
            case 2: case 4: case 6: v = random.nextInt(9) == 0 ? number(0, 9999) : number(0, 30); break;
            default: v = random.nextInt(3) == 0 ? number(0, 300) : number(0, 9999); break;
        }
        due("want " + what + " " + v, model.want(what, v), book.want(what, v));
    }

    private void blend() {
        int set = set(), what = number(0, 7);
        due("blend " + set + " " + what, model.blend(set, what), book.blend(set, what));
    }

    private void best() {
        int what = number(0, 1);
        due("best " + what, model.best(what), book.best(what));
    }

    private void lasts() {
        int share = Math.min(9999, model.count(5) / (1 + random.nextInt(20)));
        int w = random.nextInt(4) == 0 ? number(1, 9999) : number(1, share);
        int a = random.nextInt(3) == 0 ? number(0, 60) : number(0, 4);
        due("lasts " + w + " " + a, model.lasts(w, a), book.lasts(w, a));
    }

    private void cut() {
        int cask = cask(), t = number(300, 700);
        due("cut", model.cut(cask, t), book.cut(cask, t));
    }

    private void rate() {
        int v = number(0, 100);
        due("rate", model.rate(v), book.rate(v));
    }

    private void duty() {
        int set = set();
        due("duty " + set, model.duty(set), book.duty(set));
    }

    private void odds() {
        int n = number(1, 20), c = number(0, Math.min(Math.max(0, n), 20));
        due("odds " + n + " " + c, model.odds(n, c), book.odds(n, c));
    }

    private void apart() {
        int n = number(1, 20), c = number(0, Math.min(Math.max(0, n), 20));
        due("apart " + n + " " + c, model.apart(n, c), book.apart(n, c));
    }

    private void read() {
        int nose = number(0, 5), sample = number(0, 9), v = number(0, 99);
        boolean known = nose >= 0 && nose < 6 && sample >= 0 && sample < 10;
        if (known && (steady || random.nextInt(12) != 0)) {
            v = heights[nose] + heights[6 + sample];
        }
        due("read", model.read(nose, sample, v), book.read(nose, sample, v));
    }

    private void clearOrRead() {
        if (random.nextInt(3) == 0) {
            due("clear", model.clear(), book.clear());
        } else {
            read();
        }
    }

    private void hang() {
        int one = number(0, 5), other = number(0, 5), what = number(0, 1);
        due("hang " + one + " " + other, model.hang(one, other, what), book.hang(one, other, what));
    }

    private void count() {
        int what = number(0, 5);
        due("count " + what, model.count(what), book.count(what));
    }
}
