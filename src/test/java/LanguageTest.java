import java.io.IOException;
import java.lang.reflect.Array;
import java.lang.reflect.Field;
import java.lang.reflect.Method;
import java.lang.reflect.Modifier;
import java.nio.file.Files;
import java.nio.file.Path;
import java.util.ArrayList;
import java.util.Arrays;
import java.util.List;
import java.util.regex.Matcher;
import java.util.regex.Pattern;

/** Rules of ../shared/LANGUAGE.md that the class's text and shape can tell; FaceTest has rule 1. */
public final class LanguageTest {
    private static final String[] FORBIDDEN = {
        "->", "::", "\\bfinally\\b", "\\bsynchronized\\b", "\\bassert\\b", "\\btry\\b", "\\bcatch\\b", "\\bvar\\b",
        "\\bstatic\\s*\\{", "\\bpackage\\b", "Exact\\(", "\\bSystem\\.(?!arraycopy\\()", "\\b(equals|hashCode|toString)\\(",
        "\\bThread\\b", "\\bRandom\\b", "\\bwhile\\s*\\(true\\)", "for \\(;;\\)",
    };
    private static final String[] THROWN = {
        "IllegalStateException", "IllegalArgumentException", "IndexOutOfBoundsException",
        "UnsupportedOperationException", "NoSuchElementException",
    };

    public static void main(String[] args) throws IOException, IllegalAccessException {
        String text = withoutComments(Files.readString(Path.of("src/main/java/DiskArbiters.java")));
        imports(text);
        for (String pattern : FORBIDDEN) {
            Check.due("uses of " + pattern, found(text, pattern), List.of());
        }
        whatIsThrown(text);
        methodsAreShort(text);
        List<Class<?>> classes = new ArrayList<>(Arrays.asList(DiskArbiters.class.getDeclaredClasses()));
        classes.forEach(LanguageTest::isInside);
        classes.add(DiskArbiters.class);
        Check.due("at most twelve classes", classes.size() <= 12, true);
        classes.forEach(LanguageTest::shape);
        objectIsSmall();
        Check.end();
    }

    private static String withoutComments(String text) {
        return text.replaceAll("(?s)/\\*.*?\\*/", "").replaceAll("//.*", "");
    }

    private static List<String> found(String text, String pattern) {
        List<String> all = new ArrayList<>();
        Matcher matcher = Pattern.compile(pattern).matcher(text);
        while (matcher.find()) {
            all.add(matcher.group());
        }
        return all;
    }

    private static void imports(String text) {
        Check.due("imports", found(text, "import .*;"),
                List.of("import java.util.Arrays;", "import java.util.NoSuchElementException;"));
    }

    private static void whatIsThrown(String text) {
        String form = "throw new (" + String.join("|", THROWN) + ")\\(\"[^\"]*\"\\);";
        Check.due("throws in the rule's form", found(text, form).size(), found(text, "\\bthrow\\b").size());
    }

    /** Rule 11: some sixty lines. A method ends at the brace that stands as far in as its first line. */
    private static void methodsAreShort(String text) {
        String method = "(?m)^( {4}| {8})(?! )(?:[\\w\\[\\]]+ )*\\w+\\([^;{]*\\{\\R(?s:.*?)^\\1\\}";
        List<String> methods = found(text, method);
        Check.due("methods were found", methods.size() > 40, true);
        for (String one : methods) {
            Check.due("lines of " + one.lines().findFirst().get(), one.lines().count() <= 60, true);
        }
    }

    private static void isInside(Class<?> inside) {
        Check.due(inside + " is static", Modifier.isStatic(inside.getModifiers()), true);
        Check.due(inside + " is public or protected",
                (inside.getModifiers() & (Modifier.PUBLIC | Modifier.PROTECTED)) != 0, false);
    }

    private static void shape(Class<?> one) {
        int fields = 0;
        for (Field field : one.getDeclaredFields()) {
            if (Modifier.isStatic(field.getModifiers())) {
                Check.due(field + " is a constant", Modifier.isFinal(field.getModifiers()) && field.getType() == int.class, true);
            } else {
                fields++;
            }
        }
        Check.due("at most twenty fields of " + one, fields <= 20, true);
        for (Method method : one.getDeclaredMethods()) {
            Check.due("at most seven parameters of " + method, method.getParameterCount() <= 7, true);
        }
    }

    /** All calls of a run live in one room of 7.3 million fields and elements. */
    private static void objectIsSmall() throws IllegalAccessException {
        int[] made = new int[2];
        count(new DiskArbiters(), made);
        Check.due("at most 60 objects and arrays, not " + made[0], made[0] <= 60, true);
        Check.due("at most 3000 fields and elements, not " + made[1], made[1] <= 3000, true);
    }

    /** Into made: the objects and arrays, and their fields and elements. */
    private static void count(Object x, int[] made) throws IllegalAccessException {
        if (x instanceof Number || x instanceof Boolean) {
            return;
        }
        made[0]++;
        if (x.getClass().isArray()) {
            made[1] += Array.getLength(x);
            for (int i = 0; i < Array.getLength(x); i++) {
                count(Array.get(x, i), made);
            }
            return;
        }
        for (Field field : x.getClass().getDeclaredFields()) {
            if (!Modifier.isStatic(field.getModifiers())) {
                made[1]++;
                field.setAccessible(true);
                count(field.get(x), made);
            }
        }
    }
}
