import java.io.IOException;
import java.lang.reflect.Constructor;
import java.lang.reflect.Field;
import java.lang.reflect.Method;
import java.lang.reflect.Modifier;
import java.nio.file.Files;
import java.nio.file.Path;
import java.util.Set;
import java.util.TreeSet;
import java.util.regex.Matcher;
import java.util.regex.Pattern;

/** The class has the document's face and no more, and its source keeps to what of LANGUAGE.md can be seen in words. */
public final class FaceTest {
    private static final Set<String> FACE = Set.of("size(2)", "tell(4)", "told(3)", "feed(5)", "end(1)", "boards(0)",
        "fault(0)", "cell(3)", "fresh(2)", "from(3)", "made(0)", "image(1)", "back(1)", "count(1)", "status(0)");
    private static final String FORBIDDEN =
        "\\b(throw|throws|try|catch|synchronized|assert|Object|Exact|Random|System\\.(?!arraycopy))\\b|->|::|@";
    private static final Check CHECK = new Check();

    public static void main(String[] args) throws IOException {
        methods();
        fields();
        CHECK.due("is public and final", BoardSums.class.getModifiers(), Modifier.PUBLIC | Modifier.FINAL);
        CHECK.due("constructors", BoardSums.class.getDeclaredConstructors().length, 1);
        for (Constructor<?> c : BoardSums.class.getDeclaredConstructors()) {
            CHECK.due("constructor's numbers", c.getParameterCount(), 0);
            CHECK.due("constructor is public", c.getModifiers(), Modifier.PUBLIC);
        }
        source();
        CHECK.end();
    }

    private static void methods() {
        Set<String> found = new TreeSet<>();
        for (Method m : BoardSums.class.getDeclaredMethods()) {
            String call = m.getName() + "(" + m.getParameterCount() + ")";
            if (Modifier.isPrivate(m.getModifiers())) {
                boolean bearsName = FACE.stream().anyMatch(f -> f.startsWith(m.getName() + "("));
                CHECK.due("private " + call + " bears a public name", bearsName ? 1 : 0, 0);
            } else {
                found.add(call);
                CHECK.due(call + " is public", m.getModifiers(), Modifier.PUBLIC);
                CHECK.due(call + " answers int", m.getReturnType() == int.class ? 1 : 0, 1);
            }
        }
        CHECK.due("the face's methods " + found, found.equals(FACE) ? 1 : 0, 1);
    }

    private static void fields() {
        for (Field f : BoardSums.class.getDeclaredFields()) {
            boolean isOfFace = f.getName().equals("NONE") || f.getName().equals("GAP");
            CHECK.due(f.getName() + " is public", Modifier.isPublic(f.getModifiers()) ? 1 : 0, isOfFace ? 1 : 0);
            CHECK.due(f.getName() + " is private", Modifier.isPrivate(f.getModifiers()) ? 1 : 0, isOfFace ? 0 : 1);
            boolean isFinal = Modifier.isFinal(f.getModifiers());
            CHECK.due(f.getName() + " if static is final", !Modifier.isStatic(f.getModifiers()) || isFinal ? 1 : 0, 1);
        }
        CHECK.due("NONE", BoardSums.NONE, -1);
        CHECK.due("GAP", BoardSums.GAP, -2000000000);
    }

    private static void source() throws IOException {
        String text = Files.readString(Path.of("src/main/java/BoardSums.java"));
        String code = text.replaceAll("(?s)/\\*.*?\\*/", "").replaceAll("//[^\n]*", "").replaceAll("\"[^\"\n]*\"", "");
        Matcher m = Pattern.compile(FORBIDDEN).matcher(code);
        while (m.find()) {
            CHECK.due("'" + m.group() + "' in the source", 1, 0);
        }
        Matcher imports = Pattern.compile("import [^;]*;").matcher(code);
        while (imports.find()) {
            CHECK.due(imports.group(), imports.group().matches("import java\\.util\\.(Arrays|ArrayList|List);") ? 1 : 0, 1);
        }
    }
}
