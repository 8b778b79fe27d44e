import java.lang.reflect.Constructor;
import java.lang.reflect.Field;
import java.lang.reflect.Method;
import java.lang.reflect.Modifier;
import java.util.ArrayList;
import java.util.Arrays;
import java.util.Collections;
import java.util.HashSet;
import java.util.List;
import java.util.Set;

/** The public face, and rule 1 of the language. */
public final class FaceTest {
    private static final String[] FACE = {
        "int want(int, int, int, int, int) IndexOutOfBoundsException IllegalArgumentException UnsupportedOperationException",
        "int step(int) IndexOutOfBoundsException IllegalStateException NoSuchElementException",
        "boolean disk(int, boolean) IndexOutOfBoundsException",
        "boolean tear(int, int) IndexOutOfBoundsException IllegalArgumentException IllegalStateException",
        "boolean crash(int) IndexOutOfBoundsException",
        "boolean restart(int) IndexOutOfBoundsException",
        "int log(int) IndexOutOfBoundsException",
        "int entry(int, int) IndexOutOfBoundsException NoSuchElementException",
        "int outcome(int, int) IndexOutOfBoundsException NoSuchElementException",
        "int holds(int, int) IndexOutOfBoundsException",
        "int where(int, int) IndexOutOfBoundsException",
        "int reserved(int, int) IndexOutOfBoundsException",
        "int phase(int) IndexOutOfBoundsException",
        "int round(int) IndexOutOfBoundsException",
        "int vote(int, boolean) IndexOutOfBoundsException",
        "int word(int, int, int, int) IndexOutOfBoundsException IllegalArgumentException",
        "int accesses(int) IndexOutOfBoundsException",
    };

    public static void main(String[] args) {
        Class<?> face = DiskArbiters.class;
        Check.due("NONE", DiskArbiters.NONE, -1);
        Check.due("the class is public and final", face.getModifiers(), Modifier.PUBLIC | Modifier.FINAL);
        List<String> seen = new ArrayList<>();
        Set<String> publicNames = new HashSet<>();
        for (Method method : face.getDeclaredMethods()) {
            if (Modifier.isPublic(method.getModifiers())) {
                seen.add(told(method));
                publicNames.add(method.getName());
            }
        }
        List<String> want = new ArrayList<>(Arrays.asList(FACE));
        Collections.sort(want);
        Collections.sort(seen);
        Check.due("public methods", seen, want);
        for (Method method : face.getDeclaredMethods()) {
            if (!Modifier.isPublic(method.getModifiers())) {
                Check.due(method + " is private", Modifier.isPrivate(method.getModifiers()), true);
                Check.due(method + " has a name of the face", publicNames.contains(method.getName()), false);
            }
        }
        for (Field field : face.getDeclaredFields()) {
            boolean hidden = Modifier.isPrivate(field.getModifiers());
            Check.due(field + " is seen", !hidden, field.getName().equals("NONE"));
        }
        for (Class<?> inside : face.getDeclaredClasses()) {
            for (Method method : inside.getDeclaredMethods()) {
                Check.due(method + " has a name of the face", publicNames.contains(method.getName()), false);
            }
        }
        Constructor<?>[] made = face.getDeclaredConstructors();
        Check.due("constructors", made.length, 1);
        Check.due("parameters of it", made[0].getParameterCount(), 0);
        Check.due("it is public", Modifier.isPublic(made[0].getModifiers()), true);
        Check.end();
    }

    private static String told(Method method) {
        List<String> parameters = new ArrayList<>();
        for (Class<?> parameter : method.getParameterTypes()) {
            parameters.add(parameter.getSimpleName());
        }
        StringBuilder text = new StringBuilder();
        text.append(method.getReturnType().getSimpleName()).append(' ').append(method.getName());
        text.append('(').append(String.join(", ", parameters)).append(')');
        for (Class<?> exception : method.getExceptionTypes()) {
            text.append(' ').append(exception.getSimpleName());
        }
        return text.toString();
    }
}
