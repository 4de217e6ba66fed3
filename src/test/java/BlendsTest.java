/** Promises 8 to 14: wants, blends, the best one, how long stock lasts, cut, rate and duty. */
public final class BlendsTest {
    private static final int LOW = Integer.MIN_VALUE, HIGH = Integer.MAX_VALUE;
    private static final Expect expect = new Expect();

    public static void main(String[] args) {
        want();
        wantRefused();
        blend();
        blendOfOneDrop();
        blendDividesOut();
        blendAge();
        blendRefused();
        rightAtItsEdges();
        best();
        bestOfLikeCost();
        bestLeavesOut();
        bestOfTwelve();
        lasts();
        lastsByAge();
        lastsRefused();
        cut();
        rate();
        duty();
        expect.finish();
    }

    private static void want() {
        CaskBook x = new CaskBook();
        int[] first = {0, 0, 0, 9999, 0, 9999, 0, 9999};
        int[] most = {99999, 60, 9999, 9999, 9999, 9999, 9999, 9999};
        for (int what = 0; what < 8; what++) {
            expect.due("at first " + what, first[what], x.want(what, most[what]));
        }
        for (int what = 0; what < 8; what++) {
            expect.due("the most " + what, most[what], x.want(what, 0));
            expect.due("the least " + what, 0, x.want(what, 0));
        }
    }

    private static void wantRefused() {
        CaskBook x = new CaskBook();
        int[] most = {99999, 60, 9999, 9999, 9999, 9999, 9999, 9999};
        int[] first = {0, 0, 0, 9999, 0, 9999, 0, 9999};
        for (int what = 0; what < 8; what++) {
            int[] wrong = {-1, most[what] + 1, LOW, HIGH};
            for (int v : wrong) {
                expect.due("want " + what + " " + v, -1, x.want(what, v));
            }
            expect.due("is as it was " + what, first[what], x.want(what, first[what]));
        }
        int[] none = {-1, 8, LOW, HIGH};
        for (int what : none) {
            expect.due("want " + what, -1, x.want(what, 0));
        }
    }

    private static void blend() {
        CaskBook x = new CaskBook();
        x.lay(0, 1000, 700, 0, 500);
        x.lay(2, 500, 401, 3, 0);
        x.years(1);
        // 965 of 697, OAK 25, SMOKE 450, SWEET 6; 483 of 400, OAK 23, SMOKE 0, SWEET 2
        int[] one = {965, 697, 1, 25, 450, 6, 222, 1};
        int[] both = {1448, 597, 1, 24, 299, 4, 334, 1};
        for (int what = 0; what < 8; what++) {
            expect.due("of one, " + what, one[what], x.blend(1, what));
            expect.due("of both, " + what, both[what], x.blend(3, what));
        }
    }

    private static void blendOfOneDrop() {
        CaskBook x = new CaskBook();
        x.lay(1, 1, 450, 2, 7);
        int[] due = {1, 450, 0, 0, 7, 0, 1, 1};
        for (int what = 0; what < 8; what++) {
            expect.due("of one DROP, " + what, due[what], x.blend(1, what));
        }
        expect.due("it may be the best", 1, x.best(0));
    }

    /** Sums one below a whole number are rounded down, so one more in a sum would show. */
    private static void blendDividesOut() {
        CaskBook x = new CaskBook();
        x.lay(0, 9, 500, 0, 100);
        x.lay(0, 1, 499, 0, 99);
        expect.due("STRENGTH 499.9", 499, x.blend(3, 1));
        expect.due("SMOKE 99.9", 99, x.blend(3, 4));
        x.lay(0, 10, 501, 0, 101);
        expect.due("STRENGTH 500.45", 500, x.blend(7, 1));
        expect.due("SMOKE 100.45", 100, x.blend(7, 4));
    }

    private static void blendAge() {
        CaskBook x = new CaskBook();
        x.lay(0, 9000, 700, 0, 0);
        x.years(4);
        x.lay(0, 9000, 700, 0, 0);
        x.years(3);
        x.lay(0, 9000, 700, 0, 0);
        int[] due = {0, 7, 3, 3, 0, 0, 0, 0};
        for (int set = 1; set < 8; set++) {
            expect.due("AGE of " + set, due[set], x.blend(set, 2));
        }
    }

    private static void blendRefused() {
        CaskBook x = new CaskBook();
        expect.due("none", -1, x.blend(0, 0));
        expect.due("no CASK", -1, x.blend(1, 0));
        x.lay(0, 100, 700, 0, 0);
        x.lay(0, 100, 700, 0, 0);
        int[] sets = {0, 4, 5, 8, 4096, -1, -2, LOW, HIGH, 1 << 30, (1 << 31) | 1};
        for (int set : sets) {
            expect.due("set " + set, -1, x.blend(set, 0));
        }
        int[] whats = {-1, 8, LOW, HIGH};
        for (int what : whats) {
            expect.due("what " + what, -1, x.blend(1, what));
        }
        x.draw(0, 100);
        expect.due("an EMPTY one", -1, x.blend(1, 0));
        expect.due("an EMPTY one among others", -1, x.blend(3, 7));
        expect.due("the other", 100, x.blend(2, 0));
    }

    /** Each limit is met to the number and then missed by one. */
    private static void rightAtItsEdges() {
        CaskBook x = new CaskBook();
        x.lay(0, 1000, 700, 0, 500);
        x.years(1);
        int[] at = {965, 1, 25, 25, 450, 450, 6, 6};
        int[] missed = {966, 2, 26, 24, 451, 449, 7, 5};
        int[] first = {0, 0, 0, 9999, 0, 9999, 0, 9999};
        for (int what = 0; what < 8; what++) {
            x.want(what, missed[what]);
            expect.due("missed, " + what, 0, x.blend(1, 7));
            expect.due("none is best, " + what, -9, x.best(0));
            x.want(what, first[what]);
        }
        for (int what = 0; what < 8; what++) {
            x.want(what, at[what]);
            expect.due("met, " + what, 1, x.blend(1, 7));
            expect.due("best, " + what, 1, x.best(0));
        }
    }

    private static void best() {
        CaskBook x = new CaskBook();
        expect.due("no CASKS", -9, x.best(0));
        expect.due("no COST", -9, x.best(1));
        x.lay(0, 3000, 500, 0, 0);
        x.lay(0, 1000, 500, 0, 0);
        x.lay(0, 2000, 500, 0, 400);
        expect.due("the cheapest", 2, x.best(0));
        expect.due("its COST", 200, x.best(1));
        x.want(0, 4000);
        expect.due("4000 DROPS", 3, x.best(0));
        expect.due("their COST", 800, x.best(1));
        x.want(4, 100);
        expect.due("with SMOKE: 160", 5, x.best(0));
        expect.due("its COST", 1000, x.best(1));
        x.want(5, 150);
        expect.due("less SMOKE: 133", 7, x.best(0));
        x.want(5, 132);
        expect.due("none", -9, x.best(0));
        expect.due("no COST", -9, x.best(1));
        int[] wrong = {-1, 2, LOW, HIGH};
        for (int what : wrong) {
            expect.due("best " + what, -1, x.best(what));
        }
    }

    private static void bestOfLikeCost() {
        CaskBook x = new CaskBook();
        for (int i = 0; i < 4; i++) {
            x.lay(0, 1000, 500, 0, i * 100);
        }
        expect.due("the least number of like ones", 1, x.best(0));
        x.want(0, 2000);
        expect.due("the least of like pairs", 3, x.best(0));
        x.want(4, 150);
        x.want(5, 150);
        expect.due("0 and 3 ahead of ..: 1 and 2 is less", 6, x.best(0));
        CaskBook y = new CaskBook();
        y.lay(0, 500, 500, 0, 0);
        y.lay(0, 500, 500, 0, 0);
        y.lay(0, 1000, 500, 0, 0);
        y.want(0, 1000);
        expect.due("two of half the COST have the lesser number", 3, y.best(0));
        expect.due("the COST of both ways", 200, y.best(1));
    }

    private static void bestLeavesOut() {
        CaskBook x = new CaskBook();
        x.lay(0, 1000, 500, 0, 0);
        x.lay(0, 100, 500, 0, 0);
        x.years(1);
        x.lay(0, 10, 500, 0, 0);
        expect.due("the young one", 4, x.best(0));
        x.want(1, 1);
        expect.due("AGE 1", 2, x.best(0));
        x.draw(1, x.about(1, 0));
        expect.due("not an EMPTY one", 1, x.best(0));
        x.want(1, 2);
        expect.due("none so old", -9, x.best(0));
        x.want(1, 0);
        x.want(0, 1);
        x.draw(0, x.about(0, 0));
        x.draw(2, 10);
        expect.due("all EMPTY", -9, x.best(0));
        x.want(0, 0);
        expect.due("all EMPTY, nothing wanted", -9, x.best(0));
    }

    private static void bestOfTwelve() {
        CaskBook x = new CaskBook();
        for (int i = 0; i < 12; i++) {
            x.lay(0, 1000, 500, 0, 0);
        }
        x.want(0, 12000);
        expect.due("all twelve", 4095, x.best(0));
        expect.due("their COST", 2400, x.best(1));
        x.want(0, 11001);
        expect.due("still all", 4095, x.best(0));
        x.want(0, 11000);
        expect.due("eleven", 2047, x.best(0));
        x.want(0, 12001);
        expect.due("too few", -9, x.best(0));
        expect.due("a BLEND of twelve", 12000, x.blend(4095, 0));
        expect.due("a 13th bit", -1, x.blend(4096, 0));
        expect.due("DUTY of twelve", 168000, x.duty(4095));
        expect.due("a 13th bit's DUTY", -1, x.duty(4096));
        expect.due("twelve LAST", 1, x.lasts(9999, 0));
        expect.due("a YEAR of twelve", 1, x.years(1));
        expect.due("none EMPTY", 12, x.count(2));
        expect.due("DROPS of twelve", 11580, x.count(5));
    }

    private static void lasts() {
        CaskBook x = new CaskBook();
        expect.due("nothing", 0, x.lasts(1, 0));
        x.lay(0, 1000, 500, 0, 0);
        expect.due("all at once", 1, x.lasts(1000, 0));
        expect.due("one too many", 0, x.lasts(1001, 0));
        // 500 left, 18 go: 482, less 482
        expect.due("twice", 2, x.lasts(482, 0));
        // 1000 - 483 = 517, 19 go: 498; 15 left, 1 goes
        expect.due("two, not three", 2, x.lasts(483, 0));
        expect.due("30 at most", 30, x.lasts(1, 0));
        expect.due("nothing is changed", 1000, x.about(0, 0));
        expect.due("nor NOW", 0, x.count(0));
        x.lay(0, 9000, 500, 0, 0);
        x.years(30);
        x.years(30);
        expect.due("beyond YEAR 60", 30, x.lasts(10, 0));
        expect.due("NOW stays", 60, x.count(0));
    }

    private static void lastsByAge() {
        CaskBook x = new CaskBook();
        x.lay(0, 100, 500, 0, 0);
        x.years(1);
        x.lay(0, 1000, 500, 0, 0);
        // 96 of AGE 1; the other's 1000 wait for their year
        expect.due("only the old one", 0, x.lasts(97, 1));
        // year 0: the old one's 96; then the other has 965, 840, 720, 605, 495, 389, 286, 186, 88
        expect.due("then the young one too", 9, x.lasts(96, 1));
        // of AGE 2 there is none yet
        expect.due("none old enough", 0, x.lasts(1, 2));
        CaskBook y = new CaskBook();
        y.lay(2, 1000, 500, 0, 0);
        y.lay(0, 1000, 500, 3, 0);
        // like AGE, so it is CASK 0 that has 26 left: 25 with its LOSS of 22, and 950 of CASK 1
        expect.due("the least number first, 974 of 975", 2, y.lasts(974, 0));
        // 24 and 950; were CASK 1 first, 23 and 978
        expect.due("the least number first, 975 of 974", 1, y.lasts(975, 0));
        CaskBook z = new CaskBook();
        z.lay(0, 1000, 500, 0, 0);
        z.years(2);
        z.lay(0, 1000, 500, 0, 0);
        // 933 of AGE 2 and 17: 983 left, less 35; were the young one first, 48 and 904
        expect.due("the oldest first", 1, z.lasts(950, 0));
        expect.due("LOSS goes on by each one's AGE", 19, z.lasts(80, 0));
    }

    private static void lastsRefused() {
        CaskBook x = new CaskBook();
        x.lay(0, 1000, 500, 0, 0);
        int[][] wrong = {{0, 0}, {-1, 0}, {10000, 0}, {LOW, 0}, {HIGH, 0}, {1, -1}, {1, 61}, {1, LOW}, {1, HIGH}};
        for (int[] w : wrong) {
            expect.due("wrong lasts " + w[0] + " " + w[1], -1, x.lasts(w[0], w[1]));
        }
        expect.due("the most", 0, x.lasts(9999, 60));
    }

    private static void cut() {
        CaskBook x = new CaskBook();
        expect.due("no CASK", -1, x.cut(0, 400));
        x.lay(0, 1000, 635, 0, 0);
        expect.due("to 300: 1116.7", 1117, x.cut(0, 300));
        expect.due("to 400: 587.5", 588, x.cut(0, 400));
        expect.due("to 500: 270", 270, x.cut(0, 500));
        expect.due("to 634: 1.6", 2, x.cut(0, 634));
        expect.due("to what it is", 0, x.cut(0, 635));
        expect.due("to more", 0, x.cut(0, 700));
        int[][] wrong = {{0, 299}, {0, 701}, {0, 0}, {0, -400}, {0, LOW}, {0, HIGH}, {1, 400}, {-1, 400}, {LOW, 400}};
        for (int[] w : wrong) {
            expect.due("wrong cut " + w[0] + " " + w[1], -1, x.cut(w[0], w[1]));
        }
        x.draw(0, 1000);
        expect.due("of an EMPTY one", 0, x.cut(0, 300));
        x.lay(0, 9000, 400, 0, 0);
        expect.due("9000 DROPS to one more", 0, x.cut(1, 401));
        expect.due("9000 DROPS to far more", 0, x.cut(1, 700));
    }

    private static void rate() {
        CaskBook x = new CaskBook();
        expect.due("at first", 28, x.rate(100));
        int[] wrong = {-1, 101, LOW, HIGH};
        for (int v : wrong) {
            expect.due("rate " + v, -1, x.rate(v));
        }
        expect.due("as it was", 100, x.rate(0));
        expect.due("none", 0, x.rate(28));
    }

    private static void duty() {
        CaskBook x = new CaskBook();
        expect.due("no CASKS", 0, x.duty(0));
        expect.due("beyond", -1, x.duty(1));
        x.lay(0, 3, 500, 0, 0);
        x.lay(0, 1001, 501, 0, 0);
        expect.due("1.5 as 1", 28, x.duty(1));
        expect.due("501.501 as 501", 14028, x.duty(2));
        expect.due("each rounded by itself", 14056, x.duty(3));
        expect.due("of none", 0, x.duty(0));
        int[] wrong = {4, 5, 7, 4096, -1, LOW, HIGH, (1 << 31) | 1};
        for (int set : wrong) {
            expect.due("set " + set, -1, x.duty(set));
        }
        x.lay(0, 2, 500, 0, 0);
        expect.due("1 to the number", 28, x.duty(4));
        x.draw(2, 2);
        x.draw(0, 3);
        expect.due("an EMPTY one is no fault", 14028, x.duty(3));
        x.rate(1);
        expect.due("by THE RATE", 501, x.duty(2));
    }
}
