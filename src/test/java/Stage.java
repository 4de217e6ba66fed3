/** States that edges are tried in; each object is made anew by the same calls, some 60 at most. */
enum Stage {
    /** No CASKS, no READINGS, YEAR 0. */
    NEW,
    /** CASKS 0 and 2 with DROPS, 1 EMPTY; three READINGS; YEAR 1. */
    SOME,
    /** Twelve CASKS, the last one EMPTY; thirty READINGS, of which 20 is the first to contradict; YEAR 60. */
    FULL;

    CaskBook made() {
        CaskBook x = new CaskBook();
        if (this == SOME) {
            makeSome(x);
        } else if (this == FULL) {
            makeFull(x);
        }
        return x;
    }

    /** CASK 0 has 965 DROPS of STRENGTH 632, OAK 25, SMOKE 90, SWEET 6 and COST 222. */
    private static void makeSome(CaskBook x) {
        x.lay(0, 1000, 635, 0, 100);
        x.lay(1, 2500, 600, 3, 0);
        x.years(1);
        x.lay(2, 3, 400, 1, 500);
        x.draw(1, 2407);
        x.loss(0, 2, 0);
        x.want(0, 10);
        x.want(5, 400);
        x.rate(10);
        x.read(0, 0, 50);
        x.read(1, 0, 55);
        x.read(2, 1, 10);
    }

    private static void makeFull(CaskBook x) {
        x.years(30);
        x.years(30);
        for (int cask = 0; cask < 12; cask++) {
            x.lay(cask % 3, 9000, 700, cask % 4, 500);
        }
        x.draw(11, 9000);
        x.want(0, 99000);
        for (int reading = 0; reading < 30; reading++) {
            x.read(reading % 2, reading % 10, reading < 20 ? 5 : 6);
        }
    }
}
