/** Promises 1 to 7, 21 and 22: casks, the years, LOSS and THE TRACE. */
public final class CasksTest {
    private static final int LOW = Integer.MIN_VALUE, HIGH = Integer.MAX_VALUE;
    private static final Expect expect = new Expect();

    public static void main(String[] args) {
        newObject();
        lay();
        layOutOfRange();
        layFull();
        years();
        yearsRoundUp();
        yearsRefused();
        lossByKind();
        lossRefused();
        traceIsOfLossAlone();
        aboutTaste();
        aboutAfterEmpty();
        aboutCost();
        aboutRefused();
        move();
        draw();
        count();
        expect.finish();
    }

    private static void newObject() {
        CaskBook x = new CaskBook();
        expect.due("new: NOW", 0, x.count(0));
        expect.due("new: CASKS", 0, x.count(1));
        expect.due("new: not EMPTY", 0, x.count(2));
        expect.due("new: READINGS", 0, x.count(3));
        expect.due("new: RATE", 28, x.count(4));
        expect.due("new: DROPS", 0, x.count(5));
        expect.due("new: TRACE", 0, x.trace());
        expect.due("new: contradicts", -9, x.contradicts());
    }

    private static void lay() {
        CaskBook x = new CaskBook();
        expect.due("lay least", 0, x.lay(0, 1, 400, 0, 0));
        expect.due("lay most", 1, x.lay(2, 9000, 700, 3, 500));
        int[] most = {9000, 700, 0, 0, 500, 0, 2, 3, 1800};
        for (int what = 0; what < most.length; what++) {
            expect.due("as laid, about 1, " + what, most[what], x.about(1, what));
        }
    }

    private static void layOutOfRange() {
        int[][] wrong = {
            {-1, 1, 400, 0, 0}, {3, 1, 400, 0, 0}, {LOW, 1, 400, 0, 0}, {HIGH, 1, 400, 0, 0},
            {0, 0, 400, 0, 0}, {0, 9001, 400, 0, 0}, {0, LOW, 400, 0, 0}, {0, HIGH, 400, 0, 0},
            {0, 1, 399, 0, 0}, {0, 1, 701, 0, 0}, {0, 1, LOW, 0, 0}, {0, 1, HIGH, 0, 0},
            {0, 1, 400, -1, 0}, {0, 1, 400, 4, 0}, {0, 1, 400, LOW, 0}, {0, 1, 400, HIGH, 0},
            {0, 1, 400, 0, -1}, {0, 1, 400, 0, 501}, {0, 1, 400, 0, LOW}, {0, 1, 400, 0, HIGH},
        };
        CaskBook x = new CaskBook();
        for (int i = 0; i < wrong.length; i++) {
            int[] w = wrong[i];
            expect.due("wrong lay " + i, -1, x.lay(w[0], w[1], w[2], w[3], w[4]));
        }
        expect.due("nothing is laid", 0, x.count(1));
    }

    private static void layFull() {
        CaskBook x = new CaskBook();
        for (int i = 0; i < 12; i++) {
            expect.due("lay " + i, i, x.lay(i % 3, 10, 500, i % 4, 0));
        }
        expect.due("a 13th", -3, x.lay(0, 10, 500, 0, 0));
        expect.due("BAD ahead of FULL", -1, x.lay(3, 10, 500, 0, 0));
        expect.due("12 CASKS", 12, x.count(1));
        expect.due("DROPS of 12", 120, x.count(5));
        x.draw(0, 10);
        expect.due("an EMPTY one makes no room", -3, x.lay(0, 10, 500, 0, 0));
    }

    private static void years() {
        CaskBook x = new CaskBook();
        x.lay(0, 1000, 403, 0, 0);
        expect.due("a year", 1, x.years(1));
        expect.due("35 thousandths go", 965, x.about(0, 0));
        expect.due("STRENGTH", 400, x.about(0, 1));
        expect.due("a second year", 2, x.years(1));
        expect.due("33 thousandths of 965, 31.845, go as 32", 933, x.about(0, 0));
        expect.due("STRENGTH 400 at least", 400, x.about(0, 1));
        x.lay(0, 1000, 700, 0, 0);
        x.years(1);
        expect.due("each CASK by its own year", 965, x.about(1, 0));
        expect.due("31 thousandths of 933, 28.923", 904, x.about(0, 0));
        expect.due("30 more", 33, x.years(30));
        expect.due("up to 60", 60, x.years(27));
        expect.due("AGE", 60, x.about(0, 2));
        expect.due("AGE of one laid later", 58, x.about(1, 2));
        expect.due("STRENGTH 58 years on", 526, x.about(1, 1));
    }

    private static void yearsRoundUp() {
        CaskBook x = new CaskBook();
        x.lay(2, 9000, 500, 0, 0);
        x.years(10);
        x.draw(0, x.about(0, 0) - 143);
        x.years(1);
        expect.due("7 thousandths of 143, 1.001, go as 2", 141, x.about(0, 0));
        x.lay(0, 9000, 500, 1, 0);
        x.draw(1, 8975);
        x.years(1);
        expect.due("40 thousandths of 25, 1", 24, x.about(1, 0));
    }

    private static void yearsRefused() {
        CaskBook x = new CaskBook();
        x.lay(1, 500, 500, 1, 50);
        int[] wrong = {0, -1, 31, LOW, HIGH};
        for (int n : wrong) {
            expect.due("years " + n, -1, x.years(n));
        }
        x.years(30);
        x.years(29);
        int drops = x.about(0, 0);
        expect.due("above 60", -2, x.years(2));
        expect.due("BAD ahead of STATE", -1, x.years(31));
        expect.due("nothing goes", 59, x.count(0));
        expect.due("nothing is lost", drops, x.about(0, 0));
        expect.due("the 60th", 60, x.years(1));
        expect.due("a 61st", -2, x.years(1));
        expect.due("a CASK may be laid in the last YEAR", 1, x.lay(0, 5, 400, 0, 0));
    }

    private static void lossByKind() {
        CaskBook x = new CaskBook();
        x.lay(0, 100, 500, 0, 0);
        x.lay(2, 100, 500, 3, 0);
        int[][] rows = {
            {0, 0, 0, 35}, {0, 0, 1, 33}, {0, 0, 9, 17}, {0, 0, 10, 15}, {0, 0, 11, 15}, {0, 0, 60, 15},
            {0, 1, 0, 26}, {0, 1, 1, 24}, {0, 1, 60, 11}, {0, 2, 0, 22}, {0, 2, 1, 20}, {0, 2, 60, 7},
            {1, 0, 0, 50}, {1, 1, 0, 37}, {1, 2, 0, 33}, {1, 0, 60, 30}, {1, 1, 60, 22}, {1, 2, 60, 18},
        };
        for (int[] r : rows) {
            expect.due("loss " + r[0] + " " + r[1] + " " + r[2], r[3], x.loss(r[0], r[1], r[2]));
        }
        expect.due("loss() takes nothing", 200, x.count(5));
        x.draw(0, 100);
        expect.due("of an EMPTY one too", 35, x.loss(0, 0, 0));
    }

    private static void lossRefused() {
        CaskBook x = new CaskBook();
        expect.due("no CASK", -1, x.loss(0, 0, 0));
        x.lay(0, 100, 500, 0, 0);
        int[][] wrong = {
            {1, 0, 0}, {-1, 0, 0}, {12, 0, 0}, {LOW, 0, 0}, {HIGH, 0, 0},
            {0, -1, 0}, {0, 3, 0}, {0, LOW, 0}, {0, HIGH, 0},
            {0, 0, -1}, {0, 0, 61}, {0, 0, LOW}, {0, 0, HIGH},
        };
        for (int[] w : wrong) {
            expect.due("wrong loss " + w[0] + " " + w[1] + " " + w[2], -1, x.loss(w[0], w[1], w[2]));
        }
        expect.due("what is refused is not traced", 0, x.trace());
    }

    private static void traceIsOfLossAlone() {
        CaskBook x = new CaskBook();
        x.lay(2, 5000, 500, 0, 0);
        x.years(5);
        x.lasts(10, 0);
        x.best(0);
        expect.due("years, lasts, best ask loss() for nothing", 0, x.trace());
        x.loss(0, 0, 0);
        expect.due("FRESH", 1, x.trace());
        x.loss(0, 1, 0);
        expect.due("USED", 12, x.trace());
        x.loss(0, 2, 0);
        expect.due("TIRED", 123, x.trace());
        for (int i = 0; i < 100; i++) {
            x.loss(0, 2, i % 61);
        }
        expect.due("a hundred more", 123 + 11100, x.trace());
    }

    private static void aboutTaste() {
        CaskBook x = new CaskBook();
        x.lay(0, 9000, 700, 0, 11);
        x.lay(1, 9000, 700, 0, 500);
        x.lay(2, 9000, 700, 0, 1);
        x.years(1);
        int[][] one = {{25, 9, 6}, {16, 450, 4}, {12, 0, 2}};
        tastes(x, "a year", one);
        x.years(1);
        int[][] two = {{48, 8, 12}, {30, 405, 8}, {22, 0, 4}};
        tastes(x, "two years", two);
        x.years(30);
        int oak = x.about(2, 3);
        x.years(1);
        expect.due("OAK does not go down with a LOSS below 10", oak, x.about(2, 3));
        expect.due("SWEET goes on", 66, x.about(2, 5));
    }

    private static void tastes(CaskBook x, String when, int[][] rows) {
        for (int cask = 0; cask < rows.length; cask++) {
            for (int part = 0; part < 3; part++) {
                expect.due(when + ", PART " + part + " of " + cask, rows[cask][part], x.about(cask, 3 + part));
            }
        }
    }

    private static void aboutAfterEmpty() {
        CaskBook x = new CaskBook();
        x.lay(0, 1, 500, 0, 100);
        x.years(1);
        int[] first = {0, 497, 1, 25, 90, 6, 0, 0, 0};
        for (int what = 0; what < first.length; what++) {
            expect.due("the year that empties it, about " + what, first[what], x.about(0, what));
        }
        x.years(3);
        int[] later = {0, 497, 4, 25, 90, 6, 0, 0, 0};
        for (int what = 0; what < later.length; what++) {
            expect.due("EMPTY, about " + what, later[what], x.about(0, what));
        }
    }

    private static void aboutCost() {
        CaskBook x = new CaskBook();
        x.lay(0, 5, 500, 0, 0);
        x.lay(0, 6, 500, 0, 0);
        expect.due("20 for each 100: 1", 1, x.about(0, 8));
        expect.due("20 for each 100: 1.2", 2, x.about(1, 8));
        x.lay(0, 9000, 500, 3, 0);
        x.years(1);
        expect.due("8550 DROPS of AGE 1: 1966.5", 1967, x.about(2, 8));
    }

    private static void aboutRefused() {
        CaskBook x = new CaskBook();
        expect.due("no CASK", -1, x.about(0, 0));
        x.lay(0, 5, 500, 0, 0);
        int[][] wrong = {{0, -1}, {0, 9}, {0, LOW}, {0, HIGH}, {1, 0}, {-1, 0}, {12, 0}, {LOW, 0}, {HIGH, 0}};
        for (int[] w : wrong) {
            expect.due("wrong about " + w[0] + " " + w[1], -1, x.about(w[0], w[1]));
        }
    }

    private static void move() {
        CaskBook x = new CaskBook();
        expect.due("no CASK", -1, x.move(0, 0));
        x.lay(0, 1000, 500, 1, 0);
        int[][] wrong = {{0, -1}, {0, 4}, {0, LOW}, {0, HIGH}, {1, 0}, {-1, 0}, {12, 0}, {LOW, 0}, {HIGH, 0}};
        for (int[] w : wrong) {
            expect.due("wrong move " + w[0] + " " + w[1], -1, x.move(w[0], w[1]));
        }
        expect.due("stays where it was", 1, x.about(0, 7));
        expect.due("move", 1, x.move(0, 3));
        expect.due("to where it is", 3, x.move(0, 3));
        expect.due("FLOOR", 3, x.about(0, 7));
        x.years(1);
        expect.due("LOSS by the new FLOOR", 950, x.about(0, 0));
        expect.due("OAK by the new FLOOR", 40, x.about(0, 3));
        expect.due("back", 3, x.move(0, 0));
    }

    private static void draw() {
        CaskBook x = new CaskBook();
        expect.due("no CASK", -1, x.draw(0, 0));
        x.lay(0, 1000, 500, 1, 0);
        int[][] wrong = {{0, -1}, {0, 1001}, {0, LOW}, {0, HIGH}, {1, 0}, {-1, 0}, {12, 0}, {LOW, 0}, {HIGH, 0}};
        for (int[] w : wrong) {
            expect.due("wrong draw " + w[0] + " " + w[1], -1, x.draw(w[0], w[1]));
        }
        expect.due("nothing", 1000, x.draw(0, 0));
        expect.due("some", 700, x.draw(0, 300));
        expect.due("more than is left", -1, x.draw(0, 701));
        expect.due("the rest", 0, x.draw(0, 700));
        expect.due("of an EMPTY one", -1, x.draw(0, 1));
        expect.due("none of an EMPTY one", 0, x.draw(0, 0));
    }

    private static void count() {
        CaskBook x = new CaskBook();
        x.lay(0, 100, 500, 0, 0);
        x.lay(0, 200, 500, 0, 0);
        x.lay(0, 1, 500, 0, 0);
        x.draw(1, 200);
        x.read(0, 0, 5);
        x.read(0, 0, 6);
        x.rate(7);
        x.years(1);
        x.lay(0, 1, 500, 0, 0);
        int[] due = {1, 4, 2, 2, 7, 97};
        for (int what = 0; what < due.length; what++) {
            expect.due("count " + what, due[what], x.count(what));
        }
        int[] wrong = {-1, 6, LOW, HIGH};
        for (int what : wrong) {
            expect.due("count " + what, -1, x.count(what));
        }
    }
}
