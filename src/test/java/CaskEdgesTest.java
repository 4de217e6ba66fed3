/** Each sentence on casks that names an edge, with numbers at it and on both sides of it. */
public final class CaskEdgesTest {
    private static final Expect expect = new Expect();

    public static void main(String[] args) {
        lastCall();
        twelveAtMost();
        asLaid();
        now();
        fresh();
        used();
        tired();
        lossRoundedUp();
        partsAtFirst();
        oak();
        smoke();
        sweet();
        strength();
        emptyOnesStay();
        emptyInAYear();
        age();
        lossCall();
        about();
        trace();
        move();
        draw();
        expect.finish();
    }

    private static void lastCall() {
        expect.sentence("An object is used for at most 512 calls after it has been made");
        CaskBook x = new CaskBook();
        x.lay(0, 100, 500, 0, 0);
        for (int call = 2; call <= 511; call++) {
            x.loss(0, 2, call % 61);
        }
        expect.due("the 512th", 510 * 111, x.trace());
        CaskBook y = new CaskBook();
        for (int call = 1; call <= 511; call++) {
            y.read(0, 0, 7);
        }
        expect.due("the 512th, with 481 refused", 30, y.clear());
    }

    private static void twelveAtMost() {
        expect.sentence("CASKS (12 at most)");
        CaskBook x = new CaskBook();
        for (int cask = 0; cask < 12; cask++) {
            expect.due("CASK " + cask, cask, x.lay(cask % 3, 1 + cask, 400 + cask, cask % 4, cask));
        }
        expect.due("one more", -3, x.lay(0, 9000, 700, 3, 500));
        for (int cask = 0; cask < 12; cask++) {
            expect.due("DROPS of " + cask, 1 + cask, x.about(cask, 0));
            expect.due("STRENGTH of " + cask, 400 + cask, x.about(cask, 1));
            expect.due("SMOKE of " + cask, cask, x.about(cask, 4));
            expect.due("KIND of " + cask, cask % 3, x.about(cask, 6));
            expect.due("FLOOR of " + cask, cask % 4, x.about(cask, 7));
        }
    }

    private static void asLaid() {
        expect.sentence("9000 as laid), STRENGTH (tenths of a hundredth, 400 .. 700 as laid), lie on a FLOOR 0 .. 3");
        int[][] rows = {
            {0, 1, 400, 0, 0, 0}, {2, 9000, 700, 3, 500, 0},
            {0, 0, 400, 0, 0, -1}, {0, 9001, 400, 0, 0, -1}, {0, 1, 399, 0, 0, -1}, {0, 1, 701, 0, 0, -1},
            {0, 1, 400, -1, 0, -1}, {0, 1, 400, 4, 0, -1}, {0, 1, 400, 0, -1, -1}, {0, 1, 400, 0, 501, -1},
            {-1, 1, 400, 0, 0, -1}, {3, 1, 400, 0, 0, -1},
        };
        for (int[] r : rows) {
            CaskBook x = new CaskBook();
            expect.due(Calls.text("lay", r), r[5], x.lay(r[0], r[1], r[2], r[3], r[4]));
            expect.due("CASKS", r[5] + 1, x.count(1));
        }
    }

    private static void now() {
        expect.sentence("NOW is 0 at first, 60 at most.");
        CaskBook x = new CaskBook();
        expect.due("at first", 0, x.count(0));
        for (int year = 1; year <= 60; year++) {
            expect.due("year by year", year, x.years(1));
        }
        expect.due("one more", -2, x.years(1));
        expect.due("at most", 60, x.count(0));
    }

    private static void fresh() {
        expect.sentence("FRESH 15 and 5 times its FLOOR and 20 less 2 k, but that 0 at least (1).");
        int[] less = {20, 18, 16, 14, 12, 10, 8, 6, 4, 2, 0};
        CaskBook x = new CaskBook();
        x.lay(0, 100, 500, 0, 0);
        for (int floor = 0; floor < 4; floor++) {
            x.move(0, floor);
            for (int k = 0; k <= 60; k++) {
                int due = 15 + 5 * floor + (k < 11 ? less[k] : 0);
                expect.due("FLOOR " + floor + ", k " + k, due, x.loss(0, 0, k));
            }
        }
    }

    private static void used() {
        expect.sentence("USED three fourths of up, rounded down (10).");
        CaskBook x = new CaskBook();
        x.lay(0, 100, 500, 0, 0);
        x.lay(0, 100, 500, 1, 0);
        x.lay(0, 100, 500, 3, 0);
        expect.due("of 40: 30", 30, x.loss(1, 1, 0));
        expect.due("of 35: 26.25", 26, x.loss(0, 1, 0));
        expect.due("of 50: 37.5", 37, x.loss(2, 1, 0));
        expect.due("of 33: 24.75", 24, x.loss(0, 1, 1));
        expect.due("of 15: 11.25", 11, x.loss(0, 1, 10));
    }

    /** It is 7 at the least (FLOOR 0, k 10 or more), so that "1 at least" never comes up. */
    private static void tired() {
        expect.sentence("TIRED up less 4, 1 at least (100).");
        long least = 1000;
        for (int floor = 0; floor < 4; floor++) {
            CaskBook x = new CaskBook();
            x.lay(0, 100, 500, floor, 0);
            for (int k = 0; k <= 60; k++) {
                int tired = x.loss(0, 2, k);
                expect.due("FLOOR " + floor + ", k " + k, x.loss(0, 1, k) - 4, tired);
                least = Math.min(least, tired);
            }
        }
        expect.due("the least of all", 7, least);
    }

    private static void lossRoundedUp() {
        expect.sentence("It is so many thousandths of DROPS, rounded up, that go in a year.");
        // FRESH on FLOOR 0 loses 35 thousandths in its first year, TIRED 22
        int[][] rows = {
            {0, 1, 0}, {0, 2, 1}, {0, 28, 27}, {0, 29, 27}, {0, 8601, 8299}, {0, 200, 193}, {0, 201, 193},
            {0, 9000, 8685}, {2, 45, 44}, {2, 46, 44}, {2, 499, 488}, {2, 500, 489},
        };
        CaskBook x = new CaskBook();
        for (int[] r : rows) {
            x.lay(r[0], r[1], 500, 0, 0);
        }
        x.years(1);
        for (int cask = 0; cask < rows.length; cask++) {
            int[] r = rows[cask];
            expect.due("KIND " + r[0] + ", of " + r[1] + " are left", r[2], x.about(cask, 0));
        }
    }

    private static void partsAtFirst() {
        expect.sentence("TASTE of a CASK is of three PARTS, 0 at first: OAK, SMOKE, SWEET.");
        for (int kind = 0; kind < 3; kind++) {
            CaskBook x = new CaskBook();
            x.years(5);
            x.lay(kind, 100, 500, 3, 0);
            x.lay(kind, 100, 500, 3, 500);
            expect.due("OAK", 0, x.about(0, 3));
            expect.due("SMOKE, the least as laid", 0, x.about(0, 4));
            expect.due("SMOKE, the most as laid", 500, x.about(1, 4));
            expect.due("SWEET", 0, x.about(0, 5));
        }
    }

    private static void oak() {
        expect.sentence("In its k-th year OAK grows by LOSS less 10 (0 at least)");
        // LOSS of a TIRED one on FLOOR 0: 22 20 19 17 16 14 13 11 10 8 7 7
        int[] tired = {12, 22, 31, 38, 44, 48, 51, 52, 52, 52, 52, 52};
        // of a USED one: 26 24 23 21 20 18 17 15 14 12 11 11
        int[] used = {16, 30, 43, 54, 64, 72, 79, 84, 88, 90, 91, 92};
        CaskBook x = new CaskBook();
        x.lay(2, 9000, 700, 0, 0);
        x.lay(1, 9000, 700, 0, 0);
        for (int year = 0; year < tired.length; year++) {
            x.years(1);
            expect.due("TIRED, year " + year, tired[year], x.about(0, 3));
            expect.due("USED, year " + year, used[year], x.about(1, 3));
        }
    }

    private static void smoke() {
        expect.sentence("SMOKE goes down by a tenth, rounded up");
        int[] laid = {0, 1, 9, 10, 11, 19, 20, 21, 99, 100, 101, 500};
        int[] left = {0, 0, 8, 9, 9, 17, 18, 18, 89, 90, 90, 450};
        CaskBook x = new CaskBook();
        for (int smoke : laid) {
            x.lay(0, 9000, 700, 0, smoke);
        }
        x.years(1);
        for (int cask = 0; cask < 12; cask++) {
            expect.due("of " + laid[cask], left[cask], x.about(cask, 4));
        }
        x.years(1);
        expect.due("of 0 nothing goes", 0, x.about(1, 4));
        x.years(30);
        x.years(28);
        for (int cask = 0; cask < 12; cask++) {
            expect.due("60 years on, of " + laid[cask], 0, x.about(cask, 4));
        }
    }

    private static void sweet() {
        expect.sentence("SWEET grows by 6 less its KIND times 2.");
        CaskBook x = new CaskBook();
        for (int kind = 0; kind < 3; kind++) {
            x.lay(kind, 9000, 700, 0, 0);
        }
        x.years(1);
        for (int kind = 0; kind < 3; kind++) {
            expect.due("a year, KIND " + kind, 6 - 2 * kind, x.about(kind, 5));
        }
        x.years(30);
        x.years(29);
        int[] sixty = {360, 240, 120};
        for (int kind = 0; kind < 3; kind++) {
            expect.due("60 years, KIND " + kind, sixty[kind], x.about(kind, 5));
        }
    }

    private static void strength() {
        expect.sentence("STRENGTH goes down by 3 each year, 400 at least.");
        int[] laid = {400, 401, 402, 403, 404, 406, 407, 579, 580, 581, 700};
        int[] one = {400, 400, 400, 400, 401, 403, 404, 576, 577, 578, 697};
        int[] two = {400, 400, 400, 400, 400, 400, 401, 573, 574, 575, 694};
        int[] sixty = {400, 400, 400, 400, 400, 400, 400, 400, 400, 401, 520};
        CaskBook x = new CaskBook();
        for (int strength : laid) {
            x.lay(2, 9000, strength, 0, 0);
        }
        x.years(1);
        strengths(x, laid, one);
        x.years(1);
        strengths(x, laid, two);
        x.years(30);
        x.years(28);
        strengths(x, laid, sixty);
    }

    private static void strengths(CaskBook x, int[] laid, int[] due) {
        for (int cask = 0; cask < laid.length; cask++) {
            expect.due("of " + laid[cask] + " at " + x.count(0), due[cask], x.about(cask, 1));
        }
    }

    private static void emptyOnesStay() {
        expect.sentence("A YEAR: of each CASK that is not EMPTY LOSS as it is is taken of DROPS, TASTE and STRENGTH go "
            + "on; NOW is one more.");
        CaskBook x = new CaskBook();
        x.lay(1, 50, 600, 1, 100);
        x.lay(1, 50, 600, 1, 100);
        x.draw(0, 50);
        x.draw(1, 49);
        x.years(1);
        int[] empty = {0, 600, 1, 0, 100, 0, 1, 1, 0};
        int[] oneDrop = {0, 597, 1, 20, 90, 4, 1, 1, 0};
        for (int what = 0; what < 9; what++) {
            expect.due("EMPTY ahead of the YEAR, about " + what, empty[what], x.about(0, what));
            expect.due("one DROP ahead of the YEAR, about " + what, oneDrop[what], x.about(1, what));
        }
        expect.due("not EMPTY", 0, x.count(2));
    }

    /** The YEAR in which the last DROP goes is its last one, within one call and over several. */
    private static void emptyInAYear() {
        CaskBook once = new CaskBook();
        once.lay(0, 2, 600, 0, 100);
        once.years(30);
        CaskBook singly = new CaskBook();
        singly.lay(0, 2, 600, 0, 100);
        for (int year = 0; year < 30; year++) {
            singly.years(1);
        }
        int[] due = {0, 594, 30, 48, 81, 12, 0, 0, 0};
        for (int what = 0; what < 9; what++) {
            expect.due("two DROPS, 30 years at once, about " + what, due[what], once.about(0, what));
            expect.due("two DROPS, 30 years singly, about " + what, due[what], singly.about(0, what));
        }
    }

    private static void age() {
        expect.sentence("AGE: NOW less the YEAR it was laid in.");
        CaskBook x = new CaskBook();
        x.lay(0, 100, 500, 0, 0);
        expect.due("as laid in YEAR 0", 0, x.about(0, 2));
        x.years(1);
        x.lay(0, 1, 500, 0, 0);
        expect.due("as laid in YEAR 1", 0, x.about(1, 2));
        expect.due("of one laid a YEAR ago", 1, x.about(0, 2));
        x.years(30);
        x.years(29);
        x.lay(0, 100, 500, 0, 0);
        expect.due("the most", 60, x.about(0, 2));
        expect.due("of one that is EMPTY", 59, x.about(1, 2));
        expect.due("as laid in YEAR 60", 0, x.about(2, 2));
    }

    private static void lossCall() {
        expect.sentence("LOSS of a CASK by a KIND in its k-th year (0 .. 60). BAD.");
        CaskBook x = new CaskBook();
        x.lay(2, 100, 500, 3, 0);
        expect.due("by another KIND than its own", 50, x.loss(0, 0, 0));
        expect.due("by its own", 33, x.loss(0, 2, 0));
        expect.due("a year that it has not come to", 18, x.loss(0, 2, 60));
        expect.due("one too far", -1, x.loss(0, 2, 61));
        expect.due("one too few", -1, x.loss(0, 2, -1));
        expect.due("no such KIND", -1, x.loss(0, 3, 0));
        expect.due("no such KIND below", -1, x.loss(0, -1, 0));
        expect.due("no such CASK", -1, x.loss(1, 0, 0));
        x.draw(0, 100);
        expect.due("of an EMPTY one", 33, x.loss(0, 2, 0));
        x.move(0, 0);
        expect.due("by its FLOOR as it is", 22, x.loss(0, 2, 0));
    }

    private static void about() {
        expect.sentence("Of a CASK: 0 DROPS, 1 STRENGTH, 2 AGE, 3 OAK, 4 SMOKE, 5 SWEET, 6 its KIND, 7 its FLOOR, "
            + "8 COST. BAD.");
        CaskBook x = Stage.SOME.made();
        int[][] due = {
            {965, 632, 1, 25, 90, 6, 0, 0, 222}, {0, 597, 1, 27, 0, 4, 1, 3, 0}, {3, 400, 0, 0, 500, 0, 2, 1, 1},
        };
        for (int cask = -1; cask <= 3; cask++) {
            for (int what = -1; what <= 9; what++) {
                boolean are = cask >= 0 && cask < 3 && what >= 0 && what < 9;
                expect.due(Calls.text("about", cask, what), are ? due[cask][what] : -1, x.about(cask, what));
            }
        }
    }

    private static void trace() {
        expect.sentence("numbers in brackets come to THE TRACE as often as loss() asks that body");
        CaskBook x = new CaskBook();
        expect.due("at first", 0, x.trace());
        x.loss(0, 0, 0);
        expect.due("where there is no CASK", 0, x.trace());
        x.lay(2, 100, 500, 0, 0);
        int[][] rows = {
            {0, 0, 0, 1}, {0, 0, 60, 2}, {0, 1, 0, 13}, {0, 1, 60, 24}, {0, 2, 0, 135}, {0, 2, 60, 246},
            {0, 2, 61, 246}, {0, 3, 0, 246}, {1, 0, 0, 246}, {0, -1, 0, 246}, {0, 0, -1, 246}, {-1, 0, 0, 246},
        };
        for (int[] r : rows) {
            x.loss(r[0], r[1], r[2]);
            expect.due("after " + Calls.text("loss", r[0], r[1], r[2]), r[3], x.trace());
        }
        x.years(30);
        x.lasts(1, 0);
        x.about(0, 8);
        x.clear();
        expect.due("other calls bring nothing to it", 246, x.trace());
    }

    private static void move() {
        expect.sentence("A CASK goes to a FLOOR: where it was. BAD.");
        CaskBook x = new CaskBook();
        x.lay(0, 1000, 500, 0, 0);
        expect.due("to the top", 0, x.move(0, 3));
        expect.due("above it", -1, x.move(0, 4));
        expect.due("stays", 3, x.move(0, 3));
        expect.due("to the ground", 3, x.move(0, 0));
        expect.due("below it", -1, x.move(0, -1));
        expect.due("stays", 0, x.move(0, 0));
        expect.due("no such CASK", -1, x.move(1, 0));
        x.draw(0, 1000);
        expect.due("an EMPTY one", 0, x.move(0, 2));
        expect.due("its FLOOR", 2, x.about(0, 7));
    }

    private static void draw() {
        expect.sentence("n DROPS (0 .. what it has) are drawn from a CASK: what is left. BAD.");
        CaskBook x = new CaskBook();
        x.lay(0, 1000, 500, 0, 0);
        x.years(1);
        expect.due("as many as were laid", -1, x.draw(0, 1000));
        expect.due("one more than it has", -1, x.draw(0, 966));
        expect.due("below nothing", -1, x.draw(0, -1));
        expect.due("nothing", 965, x.draw(0, 0));
        expect.due("all but one", 1, x.draw(0, 964));
        expect.due("one more than it has", -1, x.draw(0, 2));
        expect.due("still one", 1, x.about(0, 0));
        expect.due("the last one", 0, x.draw(0, 1));
        expect.due("nothing of nothing", 0, x.draw(0, 0));
        expect.due("one of nothing", -1, x.draw(0, 1));
        expect.due("what is drawn leaves the rest as it was", 497, x.about(0, 1));
    }
}
