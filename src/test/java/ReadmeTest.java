import java.io.IOException;
import java.lang.reflect.Method;
import java.lang.reflect.Modifier;
import java.nio.file.Files;
import java.nio.file.Path;
import java.util.Arrays;
import java.util.regex.Matcher;
import java.util.regex.Pattern;

/** README.md tells how to use the class: its example's answers are those that the class gives. */
public final class ReadmeTest {
    private static final Pattern EXAMPLE = Pattern.compile("^book\\.(\\w+)\\(([^)]*)\\); *// (-?\\d+):");
    private static final Expect expect = new Expect();

    public static void main(String[] args) throws IOException {
        String text = Files.readString(Path.of("README.md"));
        example(text);
        table(text);
        expect.finish();
    }

    private static void example(String text) {
        CaskBook book = new CaskBook();
        int lines = 0;
        for (String line : text.lines().filter(l -> l.startsWith("book.")).toList()) {
            Matcher found = EXAMPLE.matcher(line);
            boolean tells = found.find();
            expect.holds("tells its answer: " + line, tells);
            if (tells) {
                lines++;
                long got = Calls.answer(book, found.group(1), numbers(found.group(2)));
                expect.due(line, Long.parseLong(found.group(3)), got);
            }
        }
        expect.holds("there is an example", lines > 0);
    }

    private static int[] numbers(String list) {
        return Arrays.stream(list.split(",")).map(String::trim).mapToInt(Integer::parseInt).toArray();
    }

    private static void table(String text) {
        for (Method m : CaskBook.class.getDeclaredMethods()) {
            if (Modifier.isPublic(m.getModifiers())) {
                Matcher row = Pattern.compile("(?m)^\\| `" + m.getName() + "\\(([^)]*)\\)` \\|").matcher(text);
                boolean has = row.find();
                expect.holds("the table has " + m.getName(), has);
                if (has) {
                    int told = row.group(1).isEmpty() ? 0 : row.group(1).split(",").length;
                    expect.due("numbers of " + m.getName(), m.getParameterCount(), told);
                }
            }
        }
    }
}
