import java.io.IOException;
import java.lang.reflect.Constructor;
import java.lang.reflect.Field;
import java.lang.reflect.Method;
import java.lang.reflect.Modifier;
import java.nio.file.Files;
import java.nio.file.Path;
import java.util.Arrays;
import java.util.Set;
import java.util.TreeSet;
import java.util.regex.Matcher;
import java.util.regex.Pattern;

/** The public face is the document's and no more; the source keeps to the words of LANGUAGE.md. */
public final class FaceTest {
    private static final Expect expect = new Expect();

    private static final String[] METHODS = {
        "int lay(int,int,int,int,int)", "int years(int)", "int loss(int,int,int)", "int about(int,int)",
        "int move(int,int)", "int draw(int,int)", "int want(int,int)", "int blend(int,int)", "int best(int)",
        "int lasts(int,int)", "int cut(int,int)", "int rate(int)", "int duty(int)", "long odds(int,int)",
        "int apart(int,int)", "int read(int,int,int)", "int clear()", "int contradicts()",
        "int hang(int,int,int)", "int count(int)", "long trace()",
    };
    private static final String[] CONSTANTS = {"BAD -1", "STATE -2", "FULL -3", "NONE -9", "NO -1000000"};

    public static void main(String[] args) throws IOException, IllegalAccessException {
        expect.holds("public final class", CaskBook.class.getModifiers() == (Modifier.PUBLIC | Modifier.FINAL));
        methods();
        constants();
        constructors();
        classesInside();
        words();
        expect.finish();
    }

    private static void methods() {
        Set<String> seen = new TreeSet<>();
        Set<String> names = new TreeSet<>();
        for (Method m : CaskBook.class.getDeclaredMethods()) {
            if (Modifier.isPublic(m.getModifiers())) {
                String full = m.toGenericString();
                seen.add(m.getReturnType() + " " + full.substring(full.indexOf("CaskBook.") + 9));
                names.add(m.getName());
                expect.holds("not static: " + m, !Modifier.isStatic(m.getModifiers()));
            }
        }
        expect.holds("methods " + seen, seen.equals(new TreeSet<>(Arrays.asList(METHODS))));
        for (Method m : CaskBook.class.getDeclaredMethods()) {
            boolean isPublic = Modifier.isPublic(m.getModifiers());
            expect.holds("public or private: " + m, isPublic || Modifier.isPrivate(m.getModifiers()));
            expect.holds("a name of its own: " + m, isPublic || !names.contains(m.getName()));
        }
    }

    private static void constants() throws IllegalAccessException {
        Set<String> seen = new TreeSet<>();
        for (Field f : CaskBook.class.getDeclaredFields()) {
            if (Modifier.isPublic(f.getModifiers())) {
                seen.add(f.getName() + " " + f.getInt(null));
                expect.holds("an int: " + f, f.getType() == int.class);
            } else {
                expect.holds("private: " + f, Modifier.isPrivate(f.getModifiers()));
            }
            boolean isStatic = Modifier.isStatic(f.getModifiers());
            expect.holds("no static state: " + f, !isStatic || Modifier.isFinal(f.getModifiers()));
        }
        expect.holds("constants " + seen, seen.equals(new TreeSet<>(Arrays.asList(CONSTANTS))));
    }

    private static void constructors() {
        Constructor<?>[] all = CaskBook.class.getDeclaredConstructors();
        expect.due("constructors", 1, all.length);
        expect.holds("public", Modifier.isPublic(all[0].getModifiers()));
        expect.due("its parameters", 0, all[0].getParameterCount());
    }

    private static void classesInside() {
        for (Class<?> c : CaskBook.class.getDeclaredClasses()) {
            int m = c.getModifiers();
            expect.holds("static, not public: " + c, Modifier.isStatic(m) && !Modifier.isPublic(m));
        }
        expect.holds("at most twelve classes", CaskBook.class.getDeclaredClasses().length < 12);
    }

    private static void words() throws IOException {
        String source = Files.readString(Path.of("src/main/java/CaskBook.java"));
        String code = source.replaceAll("(?s)/\\*.*?\\*/", "").replaceAll("//[^\n]*", "");
        Pattern ruledOut = Pattern.compile(
            "\\b(throw|throws|try|catch|synchronized|assert|package|import|System|Thread|Object|\\w+Exact)\\b|->|::");
        Matcher found = ruledOut.matcher(code);
        expect.holds("no word that LANGUAGE.md rules out", !found.find());
        expect.holds("characters 0 to 127 alone", source.chars().allMatch(c -> c < 128));
    }
}
