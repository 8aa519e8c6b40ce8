import java.io.IOException;
import java.lang.reflect.InvocationTargetException;
import java.lang.reflect.Method;
import java.lang.reflect.Modifier;
import java.nio.file.Files;
import java.nio.file.Path;
import java.util.regex.Matcher;
import java.util.regex.Pattern;

/** Each call of README.md's example answers what stands behind it, and the README names every call. */
public final class ReadmeTest {
    private static final Pattern CALL = Pattern.compile("x\\.(\\w+)\\(([^)]*)\\); +// (-?\\d+)(:.*)?");
    private static final Check CHECK = new Check();

    public static void main(String[] args) throws IOException, ReflectiveOperationException {
        String readme = Files.readString(Path.of("README.md"));
        example(readme);
        everyCallIsNamed(readme);
        CHECK.end();
    }

    private static void example(String readme) throws ReflectiveOperationException {
        BoardSums x = null;
        int calls = 0;
        for (String line : readme.replaceAll("(?s).*```java\n(.*?)```.*", "$1").split("\n")) {
            Matcher m = CALL.matcher(line);
            if (m.matches() && x != null) {
                CHECK.due(line, call(x, m.group(1), m.group(2)), Integer.parseInt(m.group(3)));
                calls++;
            } else {
                CHECK.due("a line that is a call: " + line, line.equals("BoardSums x = new BoardSums();") ? 1 : 0, 1);
                x = new BoardSums();
            }
        }
        CHECK.due("the example has calls", calls > 10 ? 1 : 0, 1);
    }

    private static int call(BoardSums x, String name, String list)
        throws IllegalAccessException, InvocationTargetException, NoSuchMethodException {
        String[] words = list.isEmpty() ? new String[0] : list.split(", ");
        Class<?>[] types = new Class<?>[words.length];
        Object[] numbers = new Object[words.length];
        for (int i = 0; i < words.length; i++) {
            types[i] = int.class;
            numbers[i] = Integer.decode(words[i]);
        }
        return (Integer) BoardSums.class.getMethod(name, types).invoke(x, numbers);
    }

    private static void everyCallIsNamed(String readme) {
        for (Method m : BoardSums.class.getDeclaredMethods()) {
            boolean isPublic = Modifier.isPublic(m.getModifiers());
            CHECK.due("README.md names " + m.getName(), !isPublic || readme.contains("`" + m.getName() + "(") ? 1 : 0, 1);
        }
    }
}
