/** Each sentence on triangles, noses and counts that names an edge, with numbers at it and beside it. */
public final class NoseEdgesTest {
    private static final int NONE = -9, NO = -1000000;
    private static final Expect expect = new Expect();

    public static void main(String[] args) {
        tries();
        odds();
        apart();
        thirtyAtMost();
        readNumbers();
        firstReading();
        lastReading();
        sameAgain();
        onlyTheFirst();
        offByOne();
        hangOfNone();
        hangAheadOfTheFirst();
        hangOfAll();
        contradictingOneTiesNothing();
        differAtMost();
        differBesideNo();
        clear();
        count();
        expect.finish();
    }

    private static void tries() {
        expect.sentence("of n tries (1 .. 20) c were right");
        CaskBook x = new CaskBook();
        expect.due("no tries", -1, x.odds(0, 0));
        expect.due("21 tries", -1, x.odds(21, 0));
        expect.due("21 of 21", -1, x.odds(21, 21));
        expect.due("no tries, apart", -1, x.apart(0, 0));
        expect.due("21 of 21, apart", -1, x.apart(21, 21));
        for (int n = 1; n <= 20; n++) {
            expect.due("more right than " + n, -1, x.odds(n, n + 1));
            expect.due("fewer right than none of " + n, -1, x.odds(n, -1));
            expect.due("more right than " + n + ", apart", -1, x.apart(n, n + 1));
            expect.due("fewer right than none of " + n + ", apart", -1, x.apart(n, -1));
        }
    }

    private static void odds() {
        expect.sentence("ODDS: how many of all 3^n ways have c right or more.");
        CaskBook x = new CaskBook();
        expect.due("the least of one", 3, x.odds(1, 0));
        expect.due("one of one", 1, x.odds(1, 1));
        expect.due("19 tries, in an int", 1162261467L, x.odds(19, 0));
        expect.due("20 tries, beyond an int", 3486784401L, x.odds(20, 0));
        expect.due("20 tries, one right", 3486784401L - 1048576L, x.odds(20, 1));
        expect.due("20 tries, two right", 3486784401L - 1048576L - 10485760L, x.odds(20, 2));
        expect.due("20 tries, all but two", 1 + 40 + 760, x.odds(20, 18));
        expect.due("20 tries, all but one", 41, x.odds(20, 19));
        expect.due("20 tries, all", 1, x.odds(20, 20));
    }

    /** 3^n is odd, so that 20 times a number never is 3^n itself. */
    private static void apart() {
        expect.sentence("TOLD APART: 20 times that is at most 3^n.");
        int[] fewest = {21, 21, 3, 4, 4, 5, 5, 6, 6, 7, 7, 8, 8, 9, 9, 9, 10, 10, 11, 11};
        CaskBook x = new CaskBook();
        for (int n = 1; n <= 20; n++) {
            int c = fewest[n - 1];
            if (c <= n) {
                expect.due(c + " of " + n, 1, x.apart(n, c));
                expect.due("one fewer than " + c + " of " + n, 0, x.apart(n, c - 1));
            }
            expect.due("all of " + n, n < 3 ? 0 : 1, x.apart(n, n));
            expect.due("none of " + n, 0, x.apart(n, 0));
        }
        expect.due("20 times 1 of 9", 0, x.apart(2, 2));
        expect.due("20 times 1 of 27", 1, x.apart(3, 3));
    }

    private static void thirtyAtMost() {
        expect.sentence("READINGS (30 at most) of a NOSE, a SAMPLE, a number 0 .. 99.");
        CaskBook x = new CaskBook();
        for (int readings = 1; readings <= 30; readings++) {
            expect.due("READING " + readings, readings, x.read(readings % 6, readings % 10, 50));
            expect.due("READINGS", readings, x.count(3));
        }
        expect.due("one more", -3, x.read(0, 0, 50));
        expect.due("READINGS", 30, x.count(3));
        expect.due("all of them", 30, x.clear());
        expect.due("room again", 1, x.read(0, 0, 50));
    }

    private static void readNumbers() {
        expect.sentence("NOSES 0 .. 5 told SAMPLES 0 .. 9 so");
        CaskBook x = new CaskBook();
        int[][] wrong = {{-1, 0, 0}, {6, 0, 0}, {0, -1, 0}, {0, 10, 0}, {0, 0, -1}, {0, 0, 100}};
        for (int[] w : wrong) {
            expect.due(Calls.text("read", w), -1, x.read(w[0], w[1], w[2]));
        }
        expect.due("the least", 1, x.read(0, 0, 0));
        expect.due("the most", 2, x.read(5, 9, 99));
        expect.due("the other SAMPLE of each", 3, x.read(0, 9, 0));
        expect.due("DIFFER", 99, x.hang(5, 0, 1));
        expect.due("none contradicts", NONE, x.contradicts());
    }

    private static void firstReading() {
        expect.sentence("READING r CONTRADICTS, if there is no SCALE for READINGS 0 .. r but one for those ahead of "
            + "it.");
        for (int nose = 0; nose < 6; nose++) {
            for (int sample = 0; sample < 10; sample++) {
                CaskBook x = new CaskBook();
                x.read(nose, sample, 99);
                expect.due("the first alone", NONE, x.contradicts());
                x.read(nose, sample, 98);
                expect.due("the second", 1, x.contradicts());
            }
        }
    }

    private static void lastReading() {
        for (int last = 1; last < 30; last++) {
            CaskBook x = new CaskBook();
            for (int reading = 0; reading < last; reading++) {
                x.read(reading % 6, reading % 10, 10 + reading % 6 + reading % 10);
            }
            expect.due("none of " + last, NONE, x.contradicts());
            x.read(0, 0, 11);
            expect.due("READING " + last, last, x.contradicts());
        }
    }

    private static void sameAgain() {
        CaskBook x = new CaskBook();
        for (int reading = 0; reading < 30; reading++) {
            x.read(3, 7, 42);
            expect.due("the same, " + reading, NONE, x.contradicts());
        }
    }

    private static void onlyTheFirst() {
        expect.sentence("The first READING that CONTRADICTS; NONE.");
        CaskBook x = new CaskBook();
        expect.due("no READINGS", NONE, x.contradicts());
        x.read(0, 0, 10);
        x.read(0, 0, 11);
        for (int reading = 2; reading < 30; reading++) {
            x.read(reading % 6, reading % 10, reading);
            expect.due("after " + reading, 1, x.contradicts());
        }
        expect.due("a 31st", -3, x.read(0, 0, 10));
        expect.due("still the first", 1, x.contradicts());
    }

    /** A NOSE that tells two SAMPLES as another does, or one of them by one more or less. */
    private static void offByOne() {
        for (int off = -1; off <= 1; off++) {
            CaskBook x = new CaskBook();
            x.read(4, 8, 30);
            x.read(4, 9, 60);
            x.read(5, 8, 40);
            expect.due("not yet", NONE, x.contradicts());
            x.read(5, 9, 70 + off);
            expect.due("by " + off, off == 0 ? NONE : 3, x.contradicts());
            expect.due("DIFFER all the same", 10, x.hang(5, 4, 1));
        }
    }

    private static void hangOfNone() {
        expect.sentence("HANG (what = 0), DIFFER (1; NO: they do not HANG). NO - 1: BAD.");
        CaskBook x = new CaskBook();
        for (int one = -1; one <= 6; one++) {
            for (int other = -1; other <= 6; other++) {
                boolean are = one >= 0 && one < 6 && other >= 0 && other < 6;
                int hang = one == other ? 1 : 0, differ = one == other ? 0 : NO;
                expect.due("HANG of " + one + " and " + other, are ? hang : NO - 1, x.hang(one, other, 0));
                expect.due("DIFFER of " + one + " and " + other, are ? differ : NO - 1, x.hang(one, other, 1));
            }
        }
        expect.due("what below", NO - 1, x.hang(0, 0, -1));
        expect.due("what beyond", NO - 1, x.hang(0, 0, 2));
    }

    private static void hangAheadOfTheFirst() {
        expect.sentence("in each SCALE of the READINGS ahead of the first that CONTRADICTS (of all, if none does)");
        CaskBook x = new CaskBook();
        x.read(0, 0, 10);
        x.read(1, 0, 20);
        x.read(2, 1, 30);
        x.read(0, 0, 11);
        x.read(2, 0, 40);
        x.read(3, 0, 50);
        expect.due("the first", 3, x.contradicts());
        expect.due("tied ahead of it", 10, x.hang(1, 0, 1));
        expect.due("tied behind it alone", NO, x.hang(2, 0, 1));
        expect.due("tied behind it alone, HANG", 0, x.hang(2, 0, 0));
        expect.due("told behind it alone", 0, x.hang(3, 0, 0));
    }

    private static void hangOfAll() {
        CaskBook x = new CaskBook();
        x.read(0, 0, 10);
        x.read(1, 1, 20);
        x.read(0, 2, 5);
        expect.due("not yet", 0, x.hang(0, 1, 0));
        expect.due("not yet by a number", NO, x.hang(0, 1, 1));
        x.read(1, 2, 8);
        expect.due("with the last of all", 1, x.hang(0, 1, 0));
        expect.due("by a number", -3, x.hang(0, 1, 1));
        x.read(1, 0, 14);
        expect.due("the last one contradicts", 4, x.contradicts());
        expect.due("as ahead of it", -3, x.hang(0, 1, 1));
    }

    /** What contradicts is of a NOSE and a SAMPLE that are tied already; the SCALE ahead of it stays. */
    private static void contradictingOneTiesNothing() {
        CaskBook x = new CaskBook();
        x.read(0, 0, 0);
        x.read(0, 0, 99);
        x.read(1, 0, 0);
        expect.due("the second", 1, x.contradicts());
        for (int nose = 1; nose < 6; nose++) {
            expect.due("NOSE " + nose, 0, x.hang(nose, 0, 0));
        }
    }

    /** Each NOSE tells one SAMPLE as 99 that the next one tells as 0: five times 99 from end to end. */
    private static void differAtMost() {
        expect.sentence("DIFFER: by how much the first one's is greater.");
        CaskBook x = new CaskBook();
        for (int nose = 0; nose < 5; nose++) {
            expect.due("not yet", NO, x.hang(0, nose + 1, 1));
            x.read(nose, nose, 99);
            x.read(nose + 1, nose, 0);
            expect.due("by " + (nose + 1), 99 * (nose + 1), x.hang(0, nose + 1, 1));
            expect.due("by less than 0", -99 * (nose + 1), x.hang(nose + 1, 0, 1));
        }
        expect.due("the most", 495, x.hang(0, 5, 1));
        expect.due("the least", -495, x.hang(5, 0, 1));
        for (int nose = 0; nose < 6; nose++) {
            expect.due("from itself", 0, x.hang(nose, nose, 1));
        }
        expect.due("none contradicts", NONE, x.contradicts());
    }

    /** DIFFER may be -1 or 0, which are no refusals. */
    private static void differBesideNo() {
        expect.sentence("What none is, where a number may be below 0.");
        CaskBook x = new CaskBook();
        x.read(0, 0, 10);
        x.read(1, 0, 11);
        x.read(2, 0, 10);
        expect.due("-1", -1, x.hang(0, 1, 1));
        expect.due("1", 1, x.hang(1, 0, 1));
        expect.due("0", 0, x.hang(0, 2, 1));
        expect.due("0 and they HANG", 1, x.hang(0, 2, 0));
        expect.due("they do not HANG", NO, x.hang(0, 3, 1));
    }

    private static void clear() {
        expect.sentence("There are no READINGS: how many there were.");
        for (int were = 0; were <= 30; were++) {
            CaskBook x = new CaskBook();
            for (int reading = 0; reading < were; reading++) {
                x.read(reading % 2, 0, reading);
            }
            expect.due("of " + were, were, x.clear());
            expect.due("READINGS", 0, x.count(3));
            expect.due("contradicts", NONE, x.contradicts());
            expect.due("HANG", 0, x.hang(0, 1, 0));
            expect.due("again", 0, x.clear());
        }
        CaskBook x = new CaskBook();
        for (int nose = 0; nose < 6; nose++) {
            for (int sample = 0; sample < 10; sample++) {
                x.read(nose, sample, 10);
                x.clear();
                x.read(nose, sample, 20);
                expect.due("what NOSE " + nose + " told of " + sample + " is forgotten", NONE, x.contradicts());
                x.clear();
            }
        }
    }

    private static void count() {
        expect.sentence("0 NOW, 1 CASKS, 2 those that are not EMPTY, 3 READINGS, 4 THE RATE, 5 DROPS of all. BAD.");
        int[][] due = {{0, 0, 0, 0, 28, 0}, {1, 3, 2, 3, 10, 968}, {60, 12, 11, 30, 28, 99000}};
        for (Stage stage : Stage.values()) {
            CaskBook x = stage.made();
            for (int what = 0; what < 6; what++) {
                expect.due(stage + " count " + what, due[stage.ordinal()][what], x.count(what));
            }
            expect.due(stage + " below", -1, x.count(-1));
            expect.due(stage + " beyond", -1, x.count(6));
        }
        CaskBook most = new CaskBook();
        for (int cask = 0; cask < 12; cask++) {
            most.lay(0, 9000, 700, 0, 0);
        }
        expect.due("the most DROPS", 108000, most.count(5));
    }
}
