/** STATE and FULL, which refusal comes first, and the empty and the full store and list of READINGS. */
public final class RefusedTest {
    private static final int BAD = -1, STATE = -2, FULL = -3, NONE = -9, NO = -1000000;
    private static final int LOW = Integer.MIN_VALUE, HIGH = Integer.MAX_VALUE;
    private static final Expect expect = new Expect();

    public static void main(String[] args) {
        stateAbove60();
        badAheadOfState();
        fullStore();
        badAheadOfFullStore();
        fullReadings();
        badAheadOfFullReadings();
        oneBoundIsNotAnother();
        storeOfEachSize();
        storeWithoutCasks();
        storeOfEmptyCasks();
        noReadings();
        fullReadingsCleared();
        refusedInARow();
        expect.finish();
    }

    private static void refused(Stage stage, long answer, String call, int... a) {
        CaskBook x = stage.made();
        String text = stage + " " + Calls.text(call, a);
        expect.due(text, answer, Calls.answer(x, call, a));
        sameAs("after " + text, stage.made(), x);
    }

    private static void sameAs(String when, CaskBook due, CaskBook x) {
        expect.holds("nothing is changed " + when, Calls.state(due).equals(Calls.state(x)));
    }

    /** An object with a CASK, of which DROPS are left at NOW. */
    private static CaskBook at(int now) {
        CaskBook x = new CaskBook();
        x.lay(1, 9000, 700, 2, 500);
        for (int gone = 0; gone < now; gone += 30) {
            x.years(Math.min(30, now - gone));
        }
        return x;
    }

    /** Each n that is allowed goes up to 60 to the number, and not to 61. */
    private static void stateAbove60() {
        expect.sentence("n YEARS (1 .. 30) go: NOW. BAD; STATE: above 60.");
        for (int n = 1; n <= 30; n++) {
            expect.due("years " + n + " from " + (60 - n), 60, at(60 - n).years(n));
            CaskBook x = at(61 - n);
            expect.due("years " + n + " from " + (61 - n), STATE, x.years(n));
            sameAs("by years above 60", at(61 - n), x);
        }
        CaskBook x = at(59);
        x.years(2);
        expect.due("what is refused takes no YEAR away", 60, x.years(1));
        for (int n = 1; n <= 30; n++) {
            refused(Stage.FULL, STATE, "years", n);
        }
    }

    private static void badAheadOfState() {
        expect.sentence("Refused, and nothing changes, the first of these: BAD (a number is not as told, or there is "
            + "no such thing), STATE (as told), FULL.");
        int[] wrong = {0, -1, -30, -60, 31, 61, LOW, LOW + 1, HIGH, HIGH - 1, HIGH - 59, HIGH - 60};
        for (int n : wrong) {
            refused(Stage.FULL, BAD, "years", n);
            refused(Stage.SOME, BAD, "years", n);
            CaskBook x = at(45);
            expect.due("years " + n + " from 45", BAD, x.years(n));
            sameAs("by years that are BAD", at(45), x);
        }
    }

    private static void fullStore() {
        expect.sentence("A CASK is laid: its number. BAD; FULL.");
        CaskBook x = new CaskBook();
        for (int cask = 0; cask < 12; cask++) {
            expect.due("CASK " + cask, cask, x.lay(0, 100, 500, 0, 0));
        }
        expect.due("a 13th", FULL, x.lay(0, 100, 500, 0, 0));
        expect.due("a 14th", FULL, x.lay(2, 9000, 700, 3, 500));
        expect.due("CASKS", 12, x.count(1));
        expect.due("DROPS of all", 1200, x.count(5));
        x.draw(0, 100);
        x.draw(11, 100);
        expect.due("EMPTY ones keep their places", FULL, x.lay(0, 100, 500, 0, 0));
        expect.due("EMPTY ones are CASKS", 12, x.count(1));
        refused(Stage.FULL, FULL, "lay", 0, 1, 400, 0, 0);
        refused(Stage.FULL, FULL, "lay", 2, 9000, 700, 3, 500);
    }

    private static void badAheadOfFullStore() {
        expect.sentence("Refused, and nothing changes, the first of these: BAD");
        int[] allowed = {0, 100, 500, 0, 0};
        int[] most = {2, 9000, 700, 3, 500};
        int[] least = {0, 1, 400, 0, 0};
        for (int place = 0; place < 5; place++) {
            int[] wrong = {least[place] - 1, most[place] + 1, LOW, HIGH};
            for (int v : wrong) {
                int[] a = allowed.clone();
                a[place] = v;
                refused(Stage.FULL, BAD, "lay", a);
            }
        }
        refused(Stage.FULL, BAD, "lay", -1, 0, 399, -1, -1);
        refused(Stage.FULL, BAD, "lay", 3, 9001, 701, 4, 501);
    }

    private static void fullReadings() {
        expect.sentence("A READING: how many there are. BAD; FULL.");
        CaskBook x = new CaskBook();
        for (int readings = 1; readings <= 30; readings++) {
            expect.due("READING " + readings, readings, x.read(0, 0, 50));
        }
        expect.due("a 31st, the same", FULL, x.read(0, 0, 50));
        expect.due("a 31st that would contradict", FULL, x.read(0, 0, 51));
        expect.due("a 31st that would tie", FULL, x.read(1, 0, 50));
        expect.due("READINGS", 30, x.count(3));
        expect.due("none contradicts", NONE, x.contradicts());
        expect.due("NOSE 1 does not HANG", 0, x.hang(0, 1, 0));
        refused(Stage.FULL, FULL, "read", 5, 9, 99);
        refused(Stage.FULL, FULL, "read", 0, 0, 0);
    }

    private static void badAheadOfFullReadings() {
        expect.sentence("Refused, and nothing changes, the first of these: BAD");
        int[] most = {5, 9, 99};
        for (int place = 0; place < 3; place++) {
            int[] wrong = {-1, most[place] + 1, LOW, HIGH};
            for (int v : wrong) {
                int[] a = {0, 0, 0};
                a[place] = v;
                refused(Stage.FULL, BAD, "read", a);
            }
        }
        refused(Stage.FULL, BAD, "read", 6, 10, 100);
    }

    /** A full store holds back no READING and no YEAR, a full list no CASK, the last YEAR neither. */
    private static void oneBoundIsNotAnother() {
        expect.sentence("Refused, and nothing changes, the first of these");
        CaskBook casks = new CaskBook();
        for (int cask = 0; cask < 12; cask++) {
            casks.lay(0, 100, 500, 0, 0);
        }
        expect.due("a READING beside twelve CASKS", 1, casks.read(0, 0, 0));
        expect.due("a YEAR of twelve CASKS", 1, casks.years(1));
        CaskBook readings = new CaskBook();
        for (int i = 0; i < 30; i++) {
            readings.read(0, 0, 0);
        }
        expect.due("a CASK beside thirty READINGS", 0, readings.lay(0, 100, 500, 0, 0));
        expect.due("a YEAR beside thirty READINGS", 1, readings.years(1));
        CaskBook last = at(60);
        expect.due("a CASK in YEAR 60", 1, last.lay(0, 100, 500, 0, 0));
        expect.due("its AGE", 0, last.about(1, 2));
        expect.due("a READING in YEAR 60", 1, last.read(0, 0, 0));
        expect.due("THE RATE in YEAR 60", 28, last.rate(1));
        expect.due("moved in YEAR 60", 2, last.move(0, 0));
        expect.due("drawn in YEAR 60", 99, last.draw(1, 1));
    }

    /** With so many CASKS laid the last one's number and bit are allowed, the next one's are not. */
    private static void storeOfEachSize() {
        expect.sentence("BAD (a number is not as told, or there is no such thing)");
        CaskBook x = new CaskBook();
        for (int size = 1; size <= 12; size++) {
            x.lay(0, 100, 500, 0, 0);
            int last = size - 1, next = size;
            String with = " with " + size + " CASKS";
            expect.due("about the last" + with, 100, x.about(last, 0));
            expect.due("about the next" + with, BAD, x.about(next, 0));
            expect.due("loss of the last" + with, 35, x.loss(last, 0, 0));
            expect.due("loss of the next" + with, BAD, x.loss(next, 0, 0));
            expect.due("move the last" + with, 0, x.move(last, 0));
            expect.due("move the next" + with, BAD, x.move(next, 0));
            expect.due("draw from the last" + with, 100, x.draw(last, 0));
            expect.due("draw from the next" + with, BAD, x.draw(next, 0));
            expect.due("cut the last" + with, 25, x.cut(last, 400));
            expect.due("cut the next" + with, BAD, x.cut(next, 400));
            expect.due("blend of all" + with, 100 * size, x.blend((1 << size) - 1, 0));
            expect.due("blend of the last" + with, 100, x.blend(1 << last, 0));
            expect.due("blend of the next" + with, BAD, x.blend(1 << next, 0));
            expect.due("blend with the next" + with, BAD, x.blend(1 << next | 1, 0));
            expect.due("duty of all" + with, 50 * 28 * size, x.duty((1 << size) - 1));
            expect.due("duty of the last" + with, 50 * 28, x.duty(1 << last));
            expect.due("duty of the next" + with, BAD, x.duty(1 << next));
            expect.due("duty with the next" + with, BAD, x.duty(1 << next | 1));
        }
        for (int bit = 12; bit < 32; bit++) {
            expect.due("blend of bit " + bit, BAD, x.blend(1 << bit, 0));
            expect.due("blend with bit " + bit, BAD, x.blend(1 << bit | 1, 0));
            expect.due("duty of bit " + bit, BAD, x.duty(1 << bit));
            expect.due("duty with bit " + bit, BAD, x.duty(1 << bit | 1));
        }
    }

    private static void storeWithoutCasks() {
        expect.sentence("YEAR 0, no CASKS, no READINGS.");
        CaskBook x = new CaskBook();
        expect.due("no best", NONE, x.best(0));
        expect.due("no COST of it", NONE, x.best(1));
        expect.due("no BLEND of none", BAD, x.blend(0, 0));
        expect.due("no BLEND of one", BAD, x.blend(1, 0));
        expect.due("lasts", 0, x.lasts(1, 0));
        expect.due("duty of none", 0, x.duty(0));
        expect.due("duty of one", BAD, x.duty(1));
        expect.due("YEARS go all the same", 30, x.years(30));
        expect.due("DROPS", 0, x.count(5));
        expect.due("a CASK laid late is the first", 0, x.lay(0, 1, 400, 0, 0));
        expect.due("its AGE", 0, x.about(0, 2));
        CaskBook y = new CaskBook();
        expect.due("another object has none of it", 0, y.count(1));
        expect.due("nor its YEARS", 0, y.count(0));
    }

    private static void storeOfEmptyCasks() {
        expect.sentence("A CASK without DROPS is EMPTY.");
        CaskBook x = new CaskBook();
        for (int cask = 0; cask < 12; cask++) {
            x.lay(0, 1, 400, 0, 0);
        }
        expect.due("none is", 12, x.count(2));
        for (int cask = 0; cask < 12; cask++) {
            x.draw(cask, 1);
            expect.due("not EMPTY", 11 - cask, x.count(2));
        }
        expect.due("CASKS", 12, x.count(1));
        expect.due("no best", NONE, x.best(0));
        expect.due("no COST of it", NONE, x.best(1));
        expect.due("no BLEND of one", BAD, x.blend(1, 0));
        expect.due("no BLEND of all", BAD, x.blend(4095, 0));
        expect.due("lasts", 0, x.lasts(1, 0));
        expect.due("duty of all", 0, x.duty(4095));
        expect.due("cut", 0, x.cut(0, 300));
        expect.due("a YEAR goes", 1, x.years(1));
        expect.due("DROPS", 0, x.count(5));
    }

    private static void noReadings() {
        expect.sentence("There are no READINGS: how many there were.");
        CaskBook x = new CaskBook();
        expect.due("of none", 0, x.clear());
        expect.due("of none again", 0, x.clear());
        expect.due("READINGS", 0, x.count(3));
        expect.due("contradicts", NONE, x.contradicts());
        expect.due("not HANG", 0, x.hang(0, 1, 0));
        expect.due("DIFFER", NO, x.hang(0, 1, 1));
        expect.due("the first READING", 1, x.read(0, 0, 0));
        expect.due("of one", 1, x.clear());
        CaskBook some = Stage.SOME.made();
        expect.due("of three", 3, some.clear());
        expect.due("CASKS stay", 3, some.count(1));
        expect.due("DROPS stay", 968, some.count(5));
        expect.due("THE RATE stays", 10, some.count(4));
        expect.due("THE TRACE stays", 111, some.trace());
    }

    private static void fullReadingsCleared() {
        CaskBook x = Stage.FULL.made();
        expect.due("one contradicts", 20, x.contradicts());
        expect.due("of thirty", 30, x.clear());
        expect.due("READINGS", 0, x.count(3));
        expect.due("none contradicts", NONE, x.contradicts());
        for (int readings = 1; readings <= 30; readings++) {
            expect.due("READING " + readings, readings, x.read(readings % 6, 0, readings % 6));
        }
        expect.due("a 31st", FULL, x.read(0, 0, 0));
        expect.due("none contradicts", NONE, x.contradicts());
        expect.due("DIFFER", 5, x.hang(5, 0, 1));
        expect.due("thirty again", 30, x.clear());
    }

    /** Every call refused, one behind the other: the object is as if none had been made. */
    private static void refusedInARow() {
        expect.sentence("Refused, and nothing changes");
        for (Stage stage : Stage.values()) {
            CaskBook x = stage.made();
            for (int v : new int[] {LOW, -1, 100000, HIGH}) {
                x.lay(v, v, v, v, v);
                x.years(v);
                x.loss(v, v, v);
                x.about(v, v);
                x.move(v, v);
                x.draw(v, v);
                x.want(v, v);
                x.blend(v, v);
                x.best(v);
                x.lasts(v, v);
                x.cut(v, v);
                x.rate(v);
                x.duty(v);
                x.odds(v, v);
                x.apart(v, v);
                x.read(v, v, v);
                x.hang(v, v, v);
                x.count(v);
            }
            sameAs(stage + " in a row", stage.made(), x);
        }
    }
}
