import java.util.ArrayList;
import java.util.Arrays;
import java.util.List;

/** Calls by their names, for tests that hold them in rows, and all that an object tells of itself. */
final class Calls {
    private Calls() { }

    static long answer(CaskBook x, String call, int... a) {
        switch (call) {
            case "lay": return x.lay(a[0], a[1], a[2], a[3], a[4]);
            case "years": return x.years(a[0]);
            case "loss": return x.loss(a[0], a[1], a[2]);
            case "about": return x.about(a[0], a[1]);
            case "move": return x.move(a[0], a[1]);
            case "draw": return x.draw(a[0], a[1]);
            case "want": return x.want(a[0], a[1]);
            case "blend": return x.blend(a[0], a[1]);
            case "best": return x.best(a[0]);
            case "lasts": return x.lasts(a[0], a[1]);
            case "cut": return x.cut(a[0], a[1]);
            case "rate": return x.rate(a[0]);
            case "duty": return x.duty(a[0]);
            case "odds": return x.odds(a[0], a[1]);
            case "apart": return x.apart(a[0], a[1]);
            case "read": return x.read(a[0], a[1], a[2]);
            case "hang": return x.hang(a[0], a[1], a[2]);
            case "count": return x.count(a[0]);
            default: throw new IllegalArgumentException(call);
        }
    }

    static String text(String call, int... a) {
        return call + Arrays.toString(a);
    }

    /** What a refused call answers: hang() alone may answer -1 as a number. */
    static long refusal(String call) {
        return call.equals("hang") ? CaskBook.NO - 1 : CaskBook.BAD;
    }

    /** Two objects with the same state tell the same. An object that has told it has lost its WANT. */
    static List<Long> state(CaskBook x) {
        List<Long> told = new ArrayList<>();
        for (int what = 0; what < 6; what++) {
            told.add((long) x.count(what));
        }
        told.add(x.trace());
        for (int cask = 0; cask < x.count(1); cask++) {
            for (int what = 0; what < 9; what++) {
                told.add((long) x.about(cask, what));
            }
        }
        told.add((long) x.best(0));
        told.add((long) x.lasts(100, 0));
        told.add((long) x.contradicts());
        for (int one = 0; one < 6; one++) {
            for (int other = 0; other < one; other++) {
                told.add((long) x.hang(one, other, 1));
            }
        }
        for (int what = 0; what < 8; what++) {
            told.add((long) x.want(what, 0));
        }
        return told;
    }
}
