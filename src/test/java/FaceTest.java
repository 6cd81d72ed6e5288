import java.lang.reflect.Constructor;
import java.lang.reflect.Field;
import java.lang.reflect.Method;
import java.lang.reflect.Modifier;
import java.util.Arrays;
import java.util.Set;
import java.util.TreeSet;
import java.util.stream.Collectors;

/** The public face of the document, whole and with nothing beside it (rule 1 of LANGUAGE.md). */
final class FaceTest {
    private static final String[] FACE = {
        "public static final int NONE",
        "public PieceText()",
        "public int insert(int, int) IndexOutOfBoundsException IllegalArgumentException UnsupportedOperationException",
        "public int delete(int, int) IndexOutOfBoundsException IllegalArgumentException",
        "public int copy(int, int, int) IndexOutOfBoundsException IllegalArgumentException UnsupportedOperationException",
        "public int at(int) IndexOutOfBoundsException",
        "public int undo() IllegalStateException",
        "public int redo() IllegalStateException",
        "public int pattern(int) IllegalArgumentException UnsupportedOperationException",
        "public int noPattern()",
        "public int find(int) IndexOutOfBoundsException",
        "public int replace(int) IllegalArgumentException IllegalStateException",
        "public int snapshot()",
        "public int word(int) IndexOutOfBoundsException",
        "public int poke(int, int) IndexOutOfBoundsException",
        "public int restore()",
        "public int told(int)",
        "public void clear()",
    };

    public static void main(String[] args) {
        Class<?> face = PieceText.class;
        Check.due("the class", "public final", Modifier.toString(face.getModifiers()));
        Set<String> seen = new TreeSet<>();
        for (Field field : face.getDeclaredFields()) {
            if (!Modifier.isPrivate(field.getModifiers()) && !field.isSynthetic()) {
                seen.add(Modifier.toString(field.getModifiers()) + " " + field.getType() + " " + field.getName());
            }
        }
        for (Constructor<?> made : face.getDeclaredConstructors()) {
            String parameters = names(made.getParameterTypes(), ", ");
            seen.add(Modifier.toString(made.getModifiers()) + " PieceText(" + parameters + ")");
        }
        for (Method method : face.getDeclaredMethods()) {
            if (!Modifier.isPrivate(method.getModifiers()) && !method.isSynthetic()) {
                seen.add(told(method));
            }
        }
        Check.due("the face", new TreeSet<>(Arrays.asList(FACE)), seen);
        noPrivateNamesake(face);
        Check.end("FaceTest");
    }

    private static void noPrivateNamesake(Class<?> face) {
        Set<String> open = Arrays.stream(face.getMethods()).map(Method::getName).collect(Collectors.toSet());
        for (Method method : face.getDeclaredMethods()) {
            if (Modifier.isPrivate(method.getModifiers())) {
                Check.due("a public namesake of " + method.getName(), false, open.contains(method.getName()));
            }
        }
    }

    private static String told(Method method) {
        String thrown = names(method.getExceptionTypes(), " ");
        return Modifier.toString(method.getModifiers()) + " " + method.getReturnType() + " " + method.getName()
            + "(" + names(method.getParameterTypes(), ", ") + ")" + (thrown.isEmpty() ? "" : " " + thrown);
    }

    private static String names(Class<?>[] types, String between) {
        return Arrays.stream(types).map(Class::getSimpleName).collect(Collectors.joining(between));
    }
}
