/**
 * Every number that a call is given: the last ones that are allowed and the first ones that are not, on
 * both sides, and the least and the largest int. What is not allowed is BAD, and nothing changes by it.
 */
public final class NumbersTest {
    private static final int STATE = -2, FULL = -3, NONE = -9, NO = -1000000;
    private static final Expect expect = new Expect();

    public static void main(String[] args) {
        expect.sentence("Refused, and nothing changes, the first of these: BAD (a number is not as told, or there is "
            + "no such thing)");
        caskNumbersOfSome();
        blendNumbersOfSome();
        caskNumbersOfFull();
        blendNumbersOfFull();
        noseNumbersOfSome();
        noseNumbersOfFull();
        numbersOfNew();
        noCasksOfNew();
        expect.finish();
    }

    /** Tries the number at a place, from .. to; the numbers in the other places are as in a. */
    private static void number(Stage stage, String call, int place, int[] a, int[] fromTo, long... due) {
        for (int side = 0; side < 2; side++) {
            int[] given = with(a, place, fromTo[side]);
            expect.due(stage + " " + Calls.text(call, given), due[side], Calls.answer(stage.made(), call, given));
        }
        int[] wrong = {fromTo[0] - 1, fromTo[1] + 1, Integer.MIN_VALUE, Integer.MAX_VALUE};
        for (int v : wrong) {
            refused(stage, call, with(a, place, v));
        }
    }

    private static void refused(Stage stage, String call, int... a) {
        CaskBook x = stage.made();
        String text = stage + " " + Calls.text(call, a);
        expect.due(text, Calls.refusal(call), Calls.answer(x, call, a));
        expect.holds("nothing changes by " + text, Calls.state(x).equals(Calls.state(stage.made())));
    }

    private static int[] with(int[] a, int place, int v) {
        int[] changed = a.clone();
        changed[place] = v;
        return changed;
    }

    private static int[] of(int... numbers) {
        return numbers;
    }

    private static void caskNumbersOfSome() {
        Stage s = Stage.SOME;
        layNumbers(s, 3);
        number(s, "years", 0, of(0), of(1, 30), 2, 31);
        number(s, "loss", 0, of(0, 0, 0), of(0, 2), 35, 40);
        number(s, "loss", 1, of(0, 0, 0), of(0, 2), 35, 22);
        number(s, "loss", 2, of(0, 0, 0), of(0, 60), 35, 15);
        number(s, "about", 0, of(0, 0), of(0, 2), 965, 3);
        number(s, "about", 1, of(0, 0), of(0, 8), 965, 222);
        number(s, "move", 0, of(0, 2), of(0, 2), 0, 1);
        number(s, "move", 1, of(2, 2), of(0, 3), 1, 1);
        number(s, "draw", 0, of(0, 0), of(0, 2), 965, 3);
        number(s, "draw", 1, of(0, 0), of(0, 965), 965, 0);
        number(s, "draw", 1, of(1, 0), of(0, 0), 0, 0);
    }

    private static void layNumbers(Stage s, long due) {
        int[] a = {1, 500, 500, 1, 50};
        number(s, "lay", 0, a, of(0, 2), due, due);
        number(s, "lay", 1, a, of(1, 9000), due, due);
        number(s, "lay", 2, a, of(400, 700), due, due);
        number(s, "lay", 3, a, of(0, 3), due, due);
        number(s, "lay", 4, a, of(0, 500), due, due);
    }

    private static void blendNumbersOfSome() {
        Stage s = Stage.SOME;
        number(s, "want", 0, of(0, 0), of(0, 7), 10, 9999);
        wantNumbers(s, 10, 0, 0, 9999, 0, 400, 0, 9999);
        number(s, "blend", 0, of(0, 0), of(1, 1), 965, 965);
        number(s, "blend", 0, of(0, 0), of(4, 5), 3, 968);
        number(s, "blend", 1, of(1, 0), of(0, 7), 965, 1);
        refused(s, "blend", 8, 0);
        refused(s, "blend", 9, 0);
        number(s, "best", 0, of(0), of(0, 1), 1, 222);
        number(s, "lasts", 0, of(0, 0), of(1, 9999), 30, 0);
        number(s, "lasts", 1, of(1, 0), of(0, 60), 30, 0);
        number(s, "cut", 0, of(0, 300), of(0, 2), 1068, 1);
        number(s, "cut", 1, of(0, 300), of(300, 700), 1068, 0);
        number(s, "rate", 0, of(0), of(0, 100), 10, 10);
        number(s, "duty", 0, of(0), of(0, 7), 0, 6100);
    }

    /** v of each WANT; was holds what each is before the call. */
    private static void wantNumbers(Stage s, int... was) {
        int[] most = {99999, 60, 9999, 9999, 9999, 9999, 9999, 9999};
        for (int what = 0; what < 8; what++) {
            number(s, "want", 1, of(what, 0), of(0, most[what]), was[what], was[what]);
        }
    }

    private static void caskNumbersOfFull() {
        Stage s = Stage.FULL;
        layNumbers(s, FULL);
        number(s, "years", 0, of(0), of(1, 30), STATE, STATE);
        number(s, "loss", 0, of(0, 0, 0), of(0, 11), 35, 50);
        number(s, "loss", 1, of(11, 0, 0), of(0, 2), 50, 33);
        number(s, "loss", 2, of(11, 0, 0), of(0, 60), 50, 30);
        number(s, "about", 0, of(0, 0), of(0, 11), 9000, 0);
        number(s, "about", 1, of(11, 0), of(0, 8), 0, 0);
        number(s, "move", 0, of(0, 2), of(0, 11), 0, 3);
        number(s, "move", 1, of(11, 2), of(0, 3), 3, 3);
        number(s, "draw", 0, of(0, 0), of(0, 11), 9000, 0);
        number(s, "draw", 1, of(10, 0), of(0, 9000), 9000, 0);
    }

    private static void blendNumbersOfFull() {
        Stage s = Stage.FULL;
        wantNumbers(s, 99000, 0, 0, 9999, 0, 9999, 0, 9999);
        number(s, "blend", 0, of(0, 0), of(1, 2047), 9000, 99000);
        refused(s, "blend", 4095, 0);
        refused(s, "blend", 4096, 0);
        refused(s, "blend", 4097, 0);
        number(s, "best", 0, of(0), of(0, 1), 2047, 19800);
        number(s, "lasts", 0, of(0, 1), of(1, 9999), 0, 0);
        number(s, "lasts", 1, of(1, 0), of(0, 60), 30, 0);
        number(s, "cut", 0, of(0, 300), of(0, 11), 12000, 0);
        number(s, "cut", 1, of(0, 300), of(300, 700), 12000, 0);
        number(s, "rate", 0, of(0), of(0, 100), 28, 28);
        number(s, "duty", 0, of(0), of(0, 4095), 0, 1940400);
    }

    private static void noseNumbersOfSome() {
        Stage s = Stage.SOME;
        readNumbers(s, 4);
        triangleNumbers(s);
        number(s, "hang", 0, of(0, 1, 1), of(0, 5), -5, NO);
        number(s, "hang", 1, of(1, 0, 1), of(0, 5), 5, NO);
        number(s, "hang", 2, of(0, 1, 0), of(0, 1), 1, -5);
        number(s, "count", 0, of(0), of(0, 5), 1, 968);
    }

    private static void noseNumbersOfFull() {
        Stage s = Stage.FULL;
        readNumbers(s, FULL);
        triangleNumbers(s);
        number(s, "hang", 0, of(0, 0, 1), of(0, 5), 0, NO);
        number(s, "hang", 1, of(5, 0, 1), of(0, 5), NO, 0);
        number(s, "hang", 2, of(0, 1, 0), of(0, 1), 0, NO);
        number(s, "count", 0, of(0), of(0, 5), 60, 99000);
    }

    private static void readNumbers(Stage s, long due) {
        int[] a = {3, 3, 50};
        number(s, "read", 0, a, of(0, 5), due, due);
        number(s, "read", 1, a, of(0, 9), due, due);
        number(s, "read", 2, a, of(0, 99), due, due);
    }

    private static void triangleNumbers(Stage s) {
        number(s, "odds", 0, of(0, 0), of(1, 20), 3, 3486784401L);
        number(s, "apart", 0, of(0, 0), of(1, 20), 0, 0);
        for (int n = 1; n <= 20; n++) {
            number(s, "odds", 1, of(n, 0), of(0, n), Math.round(Math.pow(3, n)), 1);
            number(s, "apart", 1, of(n, 0), of(0, n), 0, n < 3 ? 0 : 1);
        }
    }

    private static void numbersOfNew() {
        Stage s = Stage.NEW;
        layNumbers(s, 0);
        number(s, "years", 0, of(0), of(1, 30), 1, 30);
        wantNumbers(s, 0, 0, 0, 9999, 0, 9999, 0, 9999);
        number(s, "best", 0, of(0), of(0, 1), NONE, NONE);
        number(s, "lasts", 0, of(0, 0), of(1, 9999), 0, 0);
        number(s, "lasts", 1, of(1, 0), of(0, 60), 0, 0);
        number(s, "rate", 0, of(0), of(0, 100), 28, 28);
        number(s, "duty", 0, of(0), of(0, 0), 0, 0);
        triangleNumbers(s);
        readNumbers(s, 1);
        number(s, "hang", 0, of(0, 0, 1), of(0, 5), 0, NO);
        number(s, "hang", 1, of(5, 0, 1), of(0, 5), NO, 0);
        number(s, "hang", 2, of(0, 5, 0), of(0, 1), 0, NO);
        number(s, "count", 0, of(0), of(0, 5), 0, 0);
    }

    /** Where no CASK is laid there is no number or set of one that is allowed. */
    private static void noCasksOfNew() {
        int[] any = {0, 1, -1, 11, 12, 4095, Integer.MIN_VALUE, Integer.MAX_VALUE};
        for (int v : any) {
            refused(Stage.NEW, "loss", v, 0, 0);
            refused(Stage.NEW, "about", v, 0);
            refused(Stage.NEW, "move", v, 0);
            refused(Stage.NEW, "draw", v, 0);
            refused(Stage.NEW, "cut", v, 400);
            refused(Stage.NEW, "blend", v, 0);
        }
    }
}
