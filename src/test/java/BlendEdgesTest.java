/** Each sentence on blends that names an edge, with numbers at it and on both sides of it. */
public final class BlendEdgesTest {
    private static final int NONE = -9;
    private static final int[] WANT_AT_FIRST = {0, 0, 0, 9999, 0, 9999, 0, 9999};
    private static final Expect expect = new Expect();

    public static void main(String[] args) {
        setsThatAreBlends();
        partsRoundedDown();
        grownPartsRoundedDown();
        leastAge();
        wantAtFirst();
        wantCall();
        rightAtEachLimit();
        rightByWhatIsRoundedDown();
        spanOfNothing();
        costRoundedUp();
        costOfABlend();
        bestOfLikeCost();
        bestOfNone();
        lastsToTheDrop();
        lastsThirtyAtMost();
        lastsByAge();
        lastsOldestFirst();
        lastsBeyondTheLastYear();
        lastsChangesNothing();
        cutRoundedUp();
        cutToWhatItIs();
        dutyRoundedDown();
        rateAtItsEdges();
        dutyOfSets();
        expect.finish();
    }

    private static void setsThatAreBlends() {
        expect.sentence("BAD: no CASK, one that is EMPTY or none.");
        CaskBook x = new CaskBook();
        for (int cask = 0; cask < 4; cask++) {
            x.lay(0, 10 << cask, 500, 0, 0);
        }
        x.draw(2, 40);
        x.draw(1, 19);
        for (int set = -1; set <= 17; set++) {
            boolean isBlend = set > 0 && set < 16 && (set & 4) == 0;
            int drops = (set & 1) * 10 + (set >> 1 & 1) + (set >> 3 & 1) * 80;
            expect.due("DROPS of set " + set, isBlend ? drops : -1, x.blend(set, 0));
            expect.due("whether set " + set + " is RIGHT", isBlend ? 1 : -1, x.blend(set, 7));
        }
        x.draw(1, 1);
        expect.due("its last DROP is drawn", -1, x.blend(2, 0));
        expect.due("among others", -1, x.blend(3, 0));
    }

    private static void partsRoundedDown() {
        expect.sentence("its PART: the sum of DROPS times PART of each, by its DROPS, rounded down; its STRENGTH "
            + "likewise");
        // of the first CASK's DROPS, and one DROP of the second with one less, or one more, of each
        int[][] rows = {
            {9, 500, 100, 499, 99, 499, 99}, {9, 500, 100, 501, 101, 500, 100}, {9, 500, 100, 509, 109, 500, 100},
            {9, 500, 100, 510, 110, 501, 101}, {8999, 700, 500, 699, 499, 699, 499}, {1, 400, 0, 401, 1, 400, 0},
            {1, 400, 0, 402, 2, 401, 1}, {9, 400, 0, 409, 9, 400, 0}, {9, 400, 0, 410, 10, 401, 1},
        };
        for (int[] r : rows) {
            CaskBook x = new CaskBook();
            x.lay(0, r[0], r[1], 0, r[2]);
            x.lay(0, 1, r[3], 0, r[4]);
            expect.due(Calls.text("STRENGTH of", r), r[5], x.blend(3, 1));
            expect.due(Calls.text("SMOKE of", r), r[6], x.blend(3, 4));
            expect.due("OAK as laid", 0, x.blend(3, 3));
            expect.due("SWEET as laid", 0, x.blend(3, 5));
        }
        CaskBook least = new CaskBook();
        least.lay(0, 1, 450, 0, 7);
        expect.due("STRENGTH of one DROP", 450, least.blend(1, 1));
        expect.due("SMOKE of one DROP", 7, least.blend(1, 4));
        CaskBook most = new CaskBook();
        for (int cask = 0; cask < 12; cask++) {
            most.lay(0, 9000, 700, 3, 500);
        }
        expect.due("DROPS, the most", 108000, most.blend(4095, 0));
        expect.due("STRENGTH, the most", 700, most.blend(4095, 1));
        expect.due("SMOKE, the most", 500, most.blend(4095, 4));
        expect.due("COST", 21600, most.blend(4095, 6));
    }

    /** OAK 25 and SWEET 6 of FRESH, OAK 16 and SWEET 4 of USED, a year on. */
    private static void grownPartsRoundedDown() {
        CaskBook x = new CaskBook();
        x.lay(0, 1000, 500, 0, 0);
        x.lay(1, 1000, 500, 0, 0);
        x.years(1);
        int[][] rows = {
            {1, 1, 20, 5}, {1, 2, 19, 4}, {9, 1, 24, 5}, {1, 9, 16, 4}, {8, 1, 24, 5}, {1, 8, 17, 4},
            {900, 1, 24, 5}, {1, 900, 16, 4},
        };
        for (int[] r : rows) {
            CaskBook y = new CaskBook();
            y.lay(0, 1000, 500, 0, 0);
            y.lay(1, 1000, 500, 0, 0);
            y.years(1);
            y.draw(0, 965 - r[0]);
            y.draw(1, 974 - r[1]);
            expect.due(Calls.text("OAK of", r), r[2], y.blend(3, 3));
            expect.due(Calls.text("SWEET of", r), r[3], y.blend(3, 5));
        }
        expect.due("OAK of one alone", 25, x.blend(1, 3));
        expect.due("SWEET of one alone", 4, x.blend(2, 5));
    }

    private static void leastAge() {
        expect.sentence("its AGE: the least of them.");
        CaskBook x = new CaskBook();
        x.lay(2, 9000, 500, 0, 0);
        x.years(30);
        x.lay(2, 9000, 500, 0, 0);
        x.years(30);
        expect.due("the most", 60, x.blend(1, 2));
        expect.due("of both", 30, x.blend(3, 2));
        x.lay(2, 1, 500, 0, 0);
        expect.due("one DROP makes it young", 0, x.blend(7, 2));
        expect.due("the youngest and the oldest", 0, x.blend(5, 2));
        x.draw(2, 1);
        expect.due("without it", 30, x.blend(3, 2));
    }

    private static void wantAtFirst() {
        expect.sentence("0, 0, 0 .. 9999 each at first");
        for (int what = 0; what < 8; what++) {
            CaskBook x = new CaskBook();
            expect.due("WANT " + what, WANT_AT_FIRST[what], x.want(what, 1));
            expect.due("WANT " + what + " as it became", 1, x.want(what, 1));
            for (int other = 0; other < 8; other++) {
                if (other != what) {
                    expect.due("WANT " + other + " as at first", WANT_AT_FIRST[other], x.want(other, 0));
                }
            }
        }
    }

    private static void wantCall() {
        expect.sentence("Of a WANT: DROPS (what = 0, 0 .. 99999), AGE (1, 0 .. 60), of PART p (0 .. 2) from (2 + 2 p), "
            + "to (3 + 2 p; 0 .. 9999) becomes v: what it was. BAD.");
        int[] most = {99999, 60, 9999, 9999, 9999, 9999, 9999, 9999};
        CaskBook x = new CaskBook();
        for (int what = 0; what < 8; what++) {
            expect.due("the most of " + what, WANT_AT_FIRST[what], x.want(what, most[what]));
            expect.due("one more of " + what, -1, x.want(what, most[what] + 1));
            expect.due("the least of " + what, most[what], x.want(what, 0));
            expect.due("one less of " + what, -1, x.want(what, -1));
            expect.due("none of " + what, 0, x.want(what, 0));
        }
        expect.due("a WANT below", -1, x.want(-1, 0));
        expect.due("a WANT beyond", -1, x.want(8, 0));
    }

    /** A CASK of 965 DROPS, AGE 1, OAK 25, SMOKE 450, SWEET 6: each limit at it, one inside, one outside. */
    private static void rightAtEachLimit() {
        expect.sentence("if its DROPS, AGE are no less, each PART is in its SPAN.");
        int[] at = {965, 1, 25, 25, 450, 450, 6, 6};
        for (int what = 0; what < 8; what++) {
            int outward = what == 3 || what == 5 || what == 7 ? -1 : 1;
            CaskBook x = new CaskBook();
            x.lay(0, 1000, 700, 0, 500);
            x.years(1);
            x.want(what, at[what] - outward);
            expect.due("within " + what, 1, x.blend(1, 7));
            x.want(what, at[what]);
            expect.due("at " + what, 1, x.blend(1, 7));
            expect.due("best at " + what, 1, x.best(0));
            x.want(what, at[what] + outward);
            expect.due("beyond " + what, 0, x.blend(1, 7));
            expect.due("none best beyond " + what, NONE, x.best(0));
            expect.due("no COST beyond " + what, NONE, x.best(1));
        }
    }

    /** SMOKE is 99.9, so 99: a SPAN up to 99 has it, one from 100 on has not. */
    private static void rightByWhatIsRoundedDown() {
        CaskBook x = new CaskBook();
        x.lay(0, 9, 500, 0, 100);
        x.lay(0, 1, 500, 0, 99);
        x.want(5, 99);
        expect.due("up to 99", 1, x.blend(3, 7));
        x.want(5, 9999);
        x.want(4, 100);
        expect.due("from 100 on", 0, x.blend(3, 7));
        expect.due("from 100 on, the first one alone", 1, x.blend(1, 7));
        expect.due("from 100 on, the second one alone", 0, x.blend(2, 7));
    }

    private static void spanOfNothing() {
        CaskBook x = new CaskBook();
        x.lay(0, 100, 500, 0, 50);
        x.want(4, 51);
        x.want(5, 49);
        expect.due("from 51 to 49 there is nothing", 0, x.blend(1, 7));
        expect.due("none is best", NONE, x.best(0));
        x.want(4, 50);
        x.want(5, 50);
        expect.due("from 50 to 50", 1, x.blend(1, 7));
        x.want(3, 0);
        x.want(7, 0);
        expect.due("OAK and SWEET from 0 to 0", 1, x.blend(1, 7));
        x.want(0, 99999);
        expect.due("the most DROPS", 0, x.blend(1, 7));
    }

    private static void costRoundedUp() {
        expect.sentence("COST of a CASK: 20 and 3 times its AGE for each 100 DROPS, rounded up.");
        int[][] rows = {{1, 1}, {4, 1}, {5, 1}, {6, 2}, {10, 2}, {11, 3}, {99, 20}, {100, 20}, {101, 21}, {9000, 1800}};
        CaskBook x = new CaskBook();
        for (int[] r : rows) {
            x.lay(0, r[0], 500, 0, 0);
        }
        for (int cask = 0; cask < rows.length; cask++) {
            expect.due("of " + rows[cask][0] + " DROPS", rows[cask][1], x.about(cask, 8));
        }
        x.draw(0, 1);
        expect.due("of an EMPTY one", 0, x.about(0, 8));
        x.years(1);
        // 965 thousandths of 9000 are 8685: 23 for each 100 is 1997.55
        expect.due("of AGE 1", 1998, x.about(9, 8));
        x.years(30);
        x.years(29);
        x.draw(9, x.about(9, 0) - 51);
        expect.due("51 DROPS of AGE 60, 200 for each 100", 102, x.about(9, 8));
    }

    private static void costOfABlend() {
        CaskBook x = new CaskBook();
        for (int cask = 0; cask < 12; cask++) {
            x.lay(0, 1, 500, 0, 0);
        }
        expect.due("twelve of 0.2, each rounded up", 12, x.blend(4095, 6));
        expect.due("one", 1, x.blend(2048, 6));
        x.want(0, 12);
        expect.due("the best of them", 12, x.best(1));
    }

    private static void bestOfLikeCost() {
        expect.sentence("THE BEST BLEND: the RIGHT one with the least COST; of several the least number of the set.");
        CaskBook x = new CaskBook();
        for (int cask = 0; cask < 12; cask++) {
            x.lay(0, 100, 500, 0, cask < 6 ? 0 : 100);
        }
        for (int casks = 1; casks <= 12; casks++) {
            x.want(0, 100 * casks);
            expect.due(casks + " of twelve like ones", (1 << casks) - 1, x.best(0));
            expect.due("COST of " + casks, 20 * casks, x.best(1));
            x.want(0, 100 * casks + 1);
            expect.due("one DROP more than " + casks, casks == 12 ? NONE : (2 << casks) - 1, x.best(0));
        }
        x.want(0, 0);
        x.want(4, 100);
        expect.due("the first with SMOKE", 64, x.best(0));
        CaskBook y = new CaskBook();
        y.lay(0, 200, 500, 0, 0);
        y.lay(0, 96, 500, 0, 0);
        y.lay(0, 100, 500, 0, 0);
        y.want(0, 196);
        // CASK 0 costs 40; 1 and 2 cost 20 each, 19.2 rounded up
        expect.due("one CASK ahead of two of its COST", 1, y.best(0));
        y.draw(0, 4);
        expect.due("196 DROPS, 39.2, cost 40 too", 1, y.best(0));
        y.lay(0, 195, 500, 0, 0);
        y.draw(0, 1);
        y.want(0, 195);
        expect.due("like ones of 39", 1, y.best(0));
        y.draw(0, 1);
        expect.due("the later one has enough", 8, y.best(0));
        expect.due("its COST", 39, y.best(1));
    }

    private static void bestOfNone() {
        expect.sentence("THE BEST BLEND: its set (what = 0), COST (1); NONE. BAD.");
        CaskBook x = new CaskBook();
        expect.due("no CASKS", NONE, x.best(0));
        x.lay(0, 1, 500, 0, 0);
        expect.due("one DROP", 1, x.best(0));
        expect.due("COST of one DROP", 1, x.best(1));
        x.draw(0, 1);
        expect.due("EMPTY", NONE, x.best(0));
        expect.due("COST of EMPTY", NONE, x.best(1));
        expect.due("what below", -1, x.best(-1));
        expect.due("what beyond", -1, x.best(2));
    }

    private static void lastsToTheDrop() {
        expect.sentence("year by year, before anything else, w DROPS are taken from those of AGE a or more");
        CaskBook x = new CaskBook();
        expect.due("no CASKS", 0, x.lasts(1, 0));
        x.lay(0, 1, 500, 0, 0);
        expect.due("one DROP, one wanted", 1, x.lasts(1, 0));
        expect.due("one DROP, two wanted", 0, x.lasts(2, 0));
        x.lay(0, 999, 500, 0, 0);
        expect.due("all of two CASKS, ahead of any LOSS", 1, x.lasts(1000, 0));
        expect.due("one more", 0, x.lasts(1001, 0));
        // 1000 less 482 leave 518, all of CASK 1: 19 go, 499 are left
        expect.due("a second year", 2, x.lasts(482, 0));
        // 1000 less 490 leave 510: 18 go, 492 are left; less 491: 509, 18, 491; less 492: 508, 18, 490
        expect.due("a second year to the DROP", 2, x.lasts(491, 0));
        expect.due("a second year, one DROP short", 1, x.lasts(492, 0));
        x.lay(0, 9000, 500, 0, 0);
        expect.due("w, the most", 1, x.lasts(9999, 0));
        x.draw(0, 1);
        expect.due("w, the most, to the DROP", 1, x.lasts(9999, 0));
        x.draw(1, 1);
        expect.due("w, the most, one DROP short", 0, x.lasts(9999, 0));
    }

    /** With a LOSS of 7 thousandths, one DROP a year up to 142 of them, a want of 1 takes 2 a year. */
    private static void lastsThirtyAtMost() {
        expect.sentence("the first year in which there are fewer is the one up to which it lasts (0 .. 30: 30 if it "
            + "lasts that long)");
        CaskBook x = new CaskBook();
        x.lay(2, 200, 500, 0, 0);
        x.years(10);
        x.draw(0, x.about(0, 0) - 62);
        int[] due = {30, 30, 30, 30, 29, 29, 28, 28, 27, 27};
        for (int i = 0; i < due.length; i++) {
            expect.due("with " + x.about(0, 0), due[i], x.lasts(1, 0));
            x.draw(0, 1);
        }
        x.draw(0, x.about(0, 0) - 1);
        expect.due("with 1", 1, x.lasts(1, 0));
        x.draw(0, 1);
        expect.due("with none", 0, x.lasts(1, 0));
    }

    private static void lastsByAge() {
        expect.sentence("How many years STOCK LASTS. BAD: w 1 .. 9999, a 0 .. 60.");
        CaskBook x = new CaskBook();
        x.lay(0, 1000, 500, 0, 0);
        expect.due("AGE 0, a 0", 30, x.lasts(1, 0));
        expect.due("AGE 0, a 1", 0, x.lasts(1, 1));
        x.years(5);
        expect.due("AGE 5, a 5", 30, x.lasts(1, 5));
        expect.due("AGE 5, a 6", 0, x.lasts(1, 6));
        x.lay(0, 1000, 500, 0, 0);
        x.draw(0, x.about(0, 0) - 1);
        expect.due("the one of AGE 5 is out in a year, the other of AGE 1 then", 30, x.lasts(1, 1));
        expect.due("the other is too young by then", 1, x.lasts(1, 2));
        x.years(30);
        x.years(25);
        expect.due("a, the most", 0, x.lasts(1, 60));
        expect.due("a as old as the other", 30, x.lasts(1, 55));
        expect.due("a older than the other", 0, x.lasts(1, 56));
        int[][] wrong = {{0, 0}, {10000, 0}, {1, -1}, {1, 61}};
        for (int[] w : wrong) {
            expect.due(Calls.text("lasts", w), -1, x.lasts(w[0], w[1]));
        }
    }

    private static void lastsOldestFirst() {
        expect.sentence("the oldest first, of like ones the least number");
        // like ones, of 22 and of 50 thousandths: 26 and 1000 leave 25 and 950, 25 and 1000 leave 24 and 950
        CaskBook x = new CaskBook();
        x.lay(2, 1000, 500, 0, 0);
        x.lay(0, 1000, 500, 3, 0);
        expect.due("like ones, 974 of 975", 2, x.lasts(974, 0));
        expect.due("like ones, 975 of 974", 1, x.lasts(975, 0));
        // the other way about: 12 and 1000 leave 11 and 978, 11 and 1000 leave 10 and 978
        CaskBook y = new CaskBook();
        y.lay(0, 1000, 500, 3, 0);
        y.lay(2, 1000, 500, 0, 0);
        expect.due("like ones, 988 of 989", 2, y.lasts(988, 0));
        expect.due("like ones, 989 of 988", 1, y.lasts(989, 0));
        // one of AGE 10 and 30 thousandths, a new one of 50: 26 and 1000 leave 25 and 950
        CaskBook z = new CaskBook();
        z.lay(0, 9000, 500, 3, 0);
        z.years(10);
        z.draw(0, z.about(0, 0) - 1000);
        z.lay(0, 1000, 500, 3, 0);
        expect.due("the oldest first, 974 of 975", 2, z.lasts(974, 0));
        expect.due("the oldest first, 975 of 974", 1, z.lasts(975, 0));
        // 1000 of the old one, then 388 and 950 of both, then 702, then 97
        expect.due("of AGE 1 or more", 3, z.lasts(600, 1));
        expect.due("of AGE 2 or more", 1, z.lasts(600, 2));
        expect.due("of AGE 10 or more", 1, z.lasts(1000, 10));
        expect.due("of AGE 11 or more there is none yet", 0, z.lasts(1, 11));
    }

    private static void lastsBeyondTheLastYear() {
        expect.sentence("each YEAR then goes as told, from NOW on");
        CaskBook x = new CaskBook();
        x.years(30);
        x.years(30);
        x.lay(2, 62, 500, 0, 0);
        // one is taken each year; three times 2 go, by 22, 20 and 19 thousandths, then 1 each year
        expect.due("from YEAR 60 on, with 62", 30, x.lasts(1, 0));
        x.draw(0, 1);
        expect.due("from YEAR 60 on, with 61", 29, x.lasts(1, 0));
        expect.due("NOW", 60, x.count(0));
        expect.due("a, the most", 0, x.lasts(1, 60));
        x.lay(0, 1000, 500, 0, 0);
        x.draw(0, 61);
        expect.due("LOSS by its own year, 491 of 491", 2, x.lasts(491, 0));
        expect.due("LOSS by its own year, 492 of 490", 1, x.lasts(492, 0));
    }

    private static void lastsChangesNothing() {
        expect.sentence("nothing is changed by it");
        for (Stage stage : Stage.values()) {
            CaskBook x = stage.made();
            x.lasts(1, 0);
            x.lasts(9999, 0);
            x.lasts(100, 60);
            x.best(0);
            x.blend(1, 0);
            x.cut(0, 300);
            x.duty(1);
            x.contradicts();
            x.hang(0, 1, 0);
            expect.holds("after lasts at " + stage, Calls.state(x).equals(Calls.state(stage.made())));
        }
    }

    private static void cutRoundedUp() {
        expect.sentence("water, in DROPS: DROPS times (STRENGTH less t) by t, rounded up");
        // DROPS, STRENGTH, t, CUT
        int[][] rows = {
            {1, 700, 300, 2}, {3, 700, 300, 4}, {3, 600, 300, 3}, {3, 601, 300, 4}, {300, 400, 300, 100},
            {300, 401, 300, 101}, {301, 400, 300, 101}, {299, 400, 300, 100}, {9000, 700, 300, 12000},
            {9000, 700, 699, 13}, {699, 700, 699, 1}, {700, 700, 699, 2},
        };
        for (int[] r : rows) {
            CaskBook x = new CaskBook();
            x.lay(0, r[0], r[1], 0, 0);
            expect.due(Calls.text("CUT of", r), r[3], x.cut(0, r[2]));
            expect.due("DROPS stay", r[0], x.about(0, 0));
        }
    }

    private static void cutToWhatItIs() {
        expect.sentence("0, if STRENGTH is t or less.");
        CaskBook x = new CaskBook();
        x.lay(0, 1000, 500, 0, 0);
        expect.due("to one less", 3, x.cut(0, 499));
        expect.due("to what it is", 0, x.cut(0, 500));
        expect.due("to one more", 0, x.cut(0, 501));
        expect.due("to the most", 0, x.cut(0, 700));
        expect.due("to the least", 667, x.cut(0, 300));
        expect.due("below", -1, x.cut(0, 299));
        expect.due("above", -1, x.cut(0, 701));
        x.draw(0, 1000);
        expect.due("of an EMPTY one", 0, x.cut(0, 300));
        expect.due("of an EMPTY one, below", -1, x.cut(0, 299));
        x.lay(0, 9000, 400, 0, 0);
        expect.due("the most DROPS, to one more", 0, x.cut(1, 401));
        expect.due("the most DROPS, to the most", 0, x.cut(1, 700));
    }

    private static void dutyRoundedDown() {
        expect.sentence("DUTY: DROPS times STRENGTH by 1000, rounded down, times THE RATE (0 .. 100; 28 at first).");
        int[][] rows = {
            {1, 400, 0}, {1, 700, 0}, {2, 499, 0}, {2, 500, 28}, {2, 501, 28}, {3, 666, 28}, {3, 667, 56},
            {1000, 400, 11200}, {999, 400, 11172}, {9000, 700, 176400},
        };
        for (int[] r : rows) {
            CaskBook x = new CaskBook();
            x.lay(0, r[0], r[1], 0, 0);
            expect.due(Calls.text("DUTY of", r), r[2], x.duty(1));
        }
        CaskBook x = new CaskBook();
        x.lay(0, 2, 500, 0, 0);
        x.lay(0, 1, 500, 0, 0);
        x.lay(0, 1, 500, 0, 0);
        expect.due("0.5 and 0.5, each rounded down", 0, x.duty(6));
        expect.due("1 and 0.5 and 0.5", 28, x.duty(7));
    }

    private static void rateAtItsEdges() {
        expect.sentence("THE RATE becomes v: what it was. BAD.");
        CaskBook x = new CaskBook();
        x.lay(0, 9000, 700, 0, 0);
        expect.due("at first", 28, x.count(4));
        expect.due("the most", 28, x.rate(100));
        expect.due("DUTY by the most", 630000, x.duty(1));
        expect.due("one more", -1, x.rate(101));
        expect.due("as it was", 100, x.count(4));
        expect.due("the least", 100, x.rate(0));
        expect.due("DUTY by the least", 0, x.duty(1));
        expect.due("one less", -1, x.rate(-1));
        expect.due("as it was", 0, x.count(4));
        expect.due("one", 0, x.rate(1));
        expect.due("DUTY by one", 6300, x.duty(1));
    }

    private static void dutyOfSets() {
        expect.sentence("DUTY of all CASKS in a set. BAD: bits beyond the CASKS.");
        CaskBook x = new CaskBook();
        expect.due("none of none", 0, x.duty(0));
        for (int cask = 0; cask < 12; cask++) {
            expect.due("a bit beyond " + cask + " CASKS", -1, x.duty(1 << cask));
            x.lay(0, 9000, 700, 0, 0);
        }
        x.rate(100);
        expect.due("the most", 7560000, x.duty(4095));
        expect.due("none", 0, x.duty(0));
        expect.due("beyond", -1, x.duty(4096));
        expect.due("below 0", -1, x.duty(-1));
        x.draw(0, 9000);
        expect.due("an EMPTY one", 0, x.duty(1));
        expect.due("an EMPTY one among others", 6930000, x.duty(4095));
    }
}
