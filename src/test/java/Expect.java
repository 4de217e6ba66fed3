/** Counts answers that are not as due, and ends a test with exit code 1 if there was one. */
final class Expect {
    private int asked = 0;
    private int wrong = 0;

    void due(String call, long want, long got) {
        asked++;
        if (got != want) {
            wrong++;
            System.out.println(call + " answered " + got + ", due is " + want);
        }
    }

    void holds(String what, boolean so) {
        asked++;
        if (!so) {
            wrong++;
            System.out.println("does not hold: " + what);
        }
    }

    void finish() {
        System.out.println(asked + " asked, " + wrong + " wrong");
        if (wrong != 0) {
            System.exit(1);
        }
    }
}
