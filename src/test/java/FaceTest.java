import java.io.IOException;
import java.lang.reflect.Constructor;
import java.lang.reflect.Field;
import java.lang.reflect.Method;
import java.lang.reflect.Modifier;
import java.nio.file.Files;
import java.nio.file.Path;
import java.util.Arrays;
import java.util.TreeSet;
import java.util.regex.Matcher;
import java.util.regex.Pattern;

/** The face is the document's and nothing more; the source keeps to what LANGUAGE.md leaves out. */
public final class FaceTest {
    private static final Check CHECK = new Check();

    public static void main(String[] args) throws IOException {
        face();
        source();
        CHECK.end();
    }

    private static void face() {
        TreeSet<String> got = new TreeSet<>();
        for (Method method : LeadSheets.class.getDeclaredMethods()) {
            if (!Modifier.isPrivate(method.getModifiers())) {
                got.add(method.getReturnType() + " " + method.getName() + Arrays.toString(method.getParameterTypes()));
            }
        }
        for (Field field : LeadSheets.class.getDeclaredFields()) {
            if (!Modifier.isPrivate(field.getModifiers())) {
                got.add(field.getName());
            }
        }
        for (Constructor<?> constructor : LeadSheets.class.getDeclaredConstructors()) {
            got.add("new" + Arrays.toString(constructor.getParameterTypes()));
        }
        TreeSet<String> want = new TreeSet<>(Arrays.asList(
            "BAD", "NO", "FULL", "new[]", "int feed[int, long]", "int chord[]", "int of[int, int]",
            "int step[int, int, int]", "int write[int]", "int shown[int]", "int named[int, int]",
            "int name[int]", "int normal[int]", "int move[int, int]", "int voice[int, int, int]",
            "int key[int]", "int rest[]", "int figure[int, int]", "int count[int]"));
        CHECK.due("the face", got.toString(), want.toString());
        int modifiers = LeadSheets.class.getModifiers();
        CHECK.due("the class is public and final", modifiers, Modifier.PUBLIC | Modifier.FINAL);
        CHECK.due("BAD", LeadSheets.BAD, -1);
        CHECK.due("NO", LeadSheets.NO, -2);
        CHECK.due("FULL", LeadSheets.FULL, -3);
    }

    private static void source() throws IOException {
        String source = Files.readString(Path.of("src/main/java/LeadSheets.java"));
        String code = source.replaceAll("(?s)/\\*.*?\\*/", "").replaceAll("//[^\n]*", "")
            .replaceAll("\"[^\"]*\"", "\"\"").replaceAll("'[^']'", "' '");
        Matcher ruledOut = Pattern.compile(
            "\\b(throw|throws|try|catch|synchronized|assert|import|package|instanceof|\\w+Exact|System)\\b|->|::")
            .matcher(code);
        CHECK.due("what the rules leave out", ruledOut.find() ? ruledOut.group() : "", "");
    }
}
