import java.io.IOException;
import java.lang.reflect.InvocationTargetException;
import java.lang.reflect.Method;
import java.lang.reflect.Modifier;
import java.nio.file.Files;
import java.nio.file.Path;
import java.util.Arrays;
import java.util.Set;
import java.util.TreeSet;
import java.util.regex.Matcher;
import java.util.regex.Pattern;

/** The calls that README.md shows, made one behind the other, answer what stands behind them there. */
final class ReadmeTest {
    private static final Pattern CALL = Pattern.compile("x\\.(\\w+)\\((.*?)\\);(?:\\s*// (throws \\w+|-?\\d+).*)?");

    public static void main(String[] args) throws IOException {
        PieceText x = new PieceText();
        Set<String> shown = new TreeSet<>();
        for (String line : Files.readAllLines(Path.of("README.md"))) {
            Matcher call = CALL.matcher(line);
            if (call.matches()) {
                String due = String.valueOf(call.group(3));
                shown.add(call.group(1));
                Check.sentence("README.md: " + line,
                    () -> Check.due("the call", due, answer(x, call.group(1), call.group(2))));
            }
        }
        Check.sentence("README.md says how to use the class", () -> Check.due("the calls shown", methods(), shown));
        Check.end("ReadmeTest");
    }

    private static Set<String> methods() {
        Set<String> names = new TreeSet<>();
        for (Method method : PieceText.class.getDeclaredMethods()) {
            if (Modifier.isPublic(method.getModifiers())) {
                names.add(method.getName());
            }
        }
        return names;
    }

    /** The answer as README.md writes it; that of a method without one is null. */
    private static String answer(PieceText x, String name, String arguments) {
        Object[] numbers = Arrays.stream(arguments.split(", ")).filter(number -> !number.isEmpty())
            .map(ReadmeTest::number).toArray();
        Class<?>[] types = new Class<?>[numbers.length];
        Arrays.fill(types, int.class);
        try {
            return String.valueOf(PieceText.class.getMethod(name, types).invoke(x, numbers));
        } catch (InvocationTargetException e) {
            return "throws " + e.getCause().getClass().getSimpleName();
        } catch (ReflectiveOperationException e) {
            return e.toString();
        }
    }

    private static Object number(String argument) {
        return argument.startsWith("'") ? (int) argument.charAt(1) : Integer.parseInt(argument);
    }
}
