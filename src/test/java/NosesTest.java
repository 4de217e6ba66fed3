/** Promises 15 to 20: the triangle, readings, what contradicts and what hangs. */
public final class NosesTest {
    private static final int LOW = Integer.MIN_VALUE, HIGH = Integer.MAX_VALUE;
    private static final int NO = -1000000;
    private static final Expect expect = new Expect();

    public static void main(String[] args) {
        odds();
        oddsRefused();
        apart();
        read();
        readFull();
        clear();
        contradicts();
        contradictsRoundAbout();
        hang();
        hangAheadOfContradiction();
        hangRefused();
        expect.finish();
    }

    private static void odds() {
        CaskBook x = new CaskBook();
        long all = 1;
        for (int n = 1; n <= 20; n++) {
            all *= 3;
            expect.due("all ways of " + n, all, x.odds(n, 0));
            expect.due("all right of " + n, 1, x.odds(n, n));
            expect.due("all but one of " + n, 1 + 2L * n, x.odds(n, n - 1));
            expect.due("not all wrong of " + n, all - (1L << n), x.odds(n, 1));
        }
        expect.due("4, 2", 33, x.odds(4, 2));
        expect.due("8, 6", 129, x.odds(8, 6));
    }

    private static void oddsRefused() {
        CaskBook x = new CaskBook();
        int[][] wrong = {{0, 0}, {21, 0}, {-1, -1}, {LOW, 0}, {HIGH, 0}, {5, -1}, {5, 6}, {5, LOW}, {5, HIGH}};
        for (int[] w : wrong) {
            expect.due("odds " + w[0] + " " + w[1], -1, x.odds(w[0], w[1]));
            expect.due("apart " + w[0] + " " + w[1], -1, x.apart(w[0], w[1]));
        }
    }

    private static void apart() {
        CaskBook x = new CaskBook();
        // the least count that tells apart at 5 in a hundred, by n; 21 where none does
        int[] least = {21, 21, 3, 4, 4, 5, 5, 6, 6, 7, 7, 8, 8, 9, 9, 9, 10, 10, 11, 11};
        for (int n = 1; n <= 20; n++) {
            for (int c = 0; c <= n; c++) {
                expect.due("apart " + n + " " + c, c >= least[n - 1] ? 1 : 0, x.apart(n, c));
            }
        }
    }

    private static void read() {
        CaskBook x = new CaskBook();
        expect.due("least", 1, x.read(0, 0, 0));
        expect.due("most", 2, x.read(5, 9, 99));
        int[][] wrong = {
            {-1, 0, 0}, {6, 0, 0}, {LOW, 0, 0}, {HIGH, 0, 0},
            {0, -1, 0}, {0, 10, 0}, {0, LOW, 0}, {0, HIGH, 0},
            {0, 0, -1}, {0, 0, 100}, {0, 0, LOW}, {0, 0, HIGH},
        };
        for (int[] w : wrong) {
            expect.due("wrong read " + w[0] + " " + w[1] + " " + w[2], -1, x.read(w[0], w[1], w[2]));
        }
        expect.due("READINGS", 2, x.count(3));
        expect.due("what is refused fixes nothing", -9, x.contradicts());
    }

    private static void readFull() {
        CaskBook x = new CaskBook();
        for (int i = 1; i <= 29; i++) {
            expect.due("read " + i, i, x.read(0, 0, 50));
        }
        expect.due("the same again does not contradict", -9, x.contradicts());
        expect.due("the 30th", 30, x.read(0, 0, 51));
        expect.due("a 31st", -3, x.read(1, 0, 50));
        expect.due("BAD ahead of FULL", -1, x.read(6, 0, 50));
        expect.due("READINGS", 30, x.count(3));
        expect.due("the last one contradicts", 29, x.contradicts());
        expect.due("the 31st ties nothing", 0, x.hang(0, 1, 0));
    }

    private static void clear() {
        CaskBook x = new CaskBook();
        expect.due("none", 0, x.clear());
        x.read(0, 0, 1);
        x.read(1, 0, 2);
        x.read(1, 0, 3);
        expect.due("three", 3, x.clear());
        expect.due("READINGS", 0, x.count(3));
        expect.due("contradicts", -9, x.contradicts());
        expect.due("hang", 0, x.hang(0, 1, 0));
        expect.due("anew", 1, x.read(1, 0, 3));
        expect.due("what was is forgotten", 2, x.read(0, 0, 9));
        expect.due("differ", 6, x.hang(0, 1, 1));
        expect.due("contradicts", -9, x.contradicts());
    }

    private static void contradicts() {
        CaskBook x = new CaskBook();
        expect.due("none", -9, x.contradicts());
        x.read(0, 0, 10);
        x.read(0, 1, 20);
        x.read(1, 0, 30);
        expect.due("not yet", -9, x.contradicts());
        x.read(1, 1, 41);
        expect.due("the fourth", 3, x.contradicts());
        x.read(0, 0, 11);
        expect.due("only the first", 3, x.contradicts());
        CaskBook y = new CaskBook();
        y.read(0, 0, 10);
        y.read(0, 0, 11);
        expect.due("one NOSE of one SAMPLE", 1, y.contradicts());
    }

    /** All six NOSES in a chain, closed by the last reading: right by the number, and wrong by one. */
    private static void contradictsRoundAbout() {
        for (int off = -1; off <= 1; off++) {
            CaskBook x = new CaskBook();
            for (int nose = 0; nose < 5; nose++) {
                x.read(nose, nose, 10);
                x.read(nose + 1, nose, 10 + nose);
            }
            expect.due("differ by the chain", 10, x.hang(5, 0, 1));
            x.read(0, 9, 40);
            x.read(5, 9, 50 + off);
            expect.due("closed by " + off, off == 0 ? -9 : 11, x.contradicts());
            expect.due("differ all the same", 10, x.hang(5, 0, 1));
        }
    }

    private static void hang() {
        CaskBook x = new CaskBook();
        for (int nose = 0; nose < 6; nose++) {
            expect.due("with itself", 1, x.hang(nose, nose, 0));
            expect.due("by nothing", 0, x.hang(nose, nose, 1));
        }
        expect.due("not", 0, x.hang(0, 5, 0));
        expect.due("by no number", NO, x.hang(0, 5, 1));
        x.read(0, 3, 99);
        x.read(5, 4, 0);
        expect.due("not by different SAMPLES", 0, x.hang(0, 5, 0));
        x.read(2, 3, 0);
        x.read(2, 4, 99);
        expect.due("by a NOSE between", 1, x.hang(0, 5, 0));
        expect.due("DIFFER", 198, x.hang(0, 5, 1));
        expect.due("DIFFER the other way", -198, x.hang(5, 0, 1));
        expect.due("a NOSE and a SAMPLE of one number", 0, x.hang(3, 0, 0));
        x.read(1, 3, 50);
        expect.due("one more by a SAMPLE that was moved with its group", -49, x.hang(1, 0, 1));
    }

    private static void hangAheadOfContradiction() {
        CaskBook x = new CaskBook();
        x.read(0, 0, 10);
        x.read(1, 0, 20);
        x.read(1, 0, 21);
        x.read(2, 0, 30);
        expect.due("as ahead of it", 10, x.hang(1, 0, 1));
        expect.due("nothing behind it", NO, x.hang(2, 0, 1));
        expect.due("nothing behind it hangs", 0, x.hang(2, 0, 0));
    }

    private static void hangRefused() {
        CaskBook x = new CaskBook();
        int[][] wrong = {
            {-1, 0, 0}, {6, 0, 0}, {LOW, 0, 0}, {HIGH, 0, 0},
            {0, -1, 0}, {0, 6, 0}, {0, LOW, 0}, {0, HIGH, 0},
            {0, 0, -1}, {0, 0, 2}, {0, 0, LOW}, {0, 0, HIGH}, {6, 6, 1},
        };
        for (int[] w : wrong) {
            expect.due("wrong hang " + w[0] + " " + w[1] + " " + w[2], NO - 1, x.hang(w[0], w[1], w[2]));
        }
    }
}
