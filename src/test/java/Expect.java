import java.io.IOException;
import java.nio.file.Files;
import java.nio.file.Path;

/** Counts answers that are not as due, and ends a test with exit code 1 if there was one. */
final class Expect {
    private static final Path DOCUMENT = Path.of("../shared/DOC.md");

    private String heading = "";
    private int asked = 0;
    private int wrong = 0;

    /** What is asked next is due by this sentence; words that the document does not have are a fault. */
    void sentence(String words) {
        heading = "[" + words + "] ";
        holds("the document has these words", document().contains(plain(words)));
    }

    void due(String call, long want, long got) {
        asked++;
        if (got != want) {
            wrong++;
            System.out.println(heading + call + " answered " + got + ", due is " + want);
        }
    }

    void holds(String what, boolean so) {
        asked++;
        if (!so) {
            wrong++;
            System.out.println(heading + "does not hold: " + what);
        }
    }

    void finish() {
        System.out.println(asked + " asked, " + wrong + " wrong");
        if (wrong != 0) {
            System.exit(1);
        }
    }

    private static String document() {
        try {
            return plain(Files.readString(DOCUMENT));
        } catch (IOException e) {
            return "";
        }
    }

    private static String plain(String text) {
        return text.replaceAll("\\s+", " ");
    }
}
