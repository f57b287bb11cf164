import java.io.IOException;
import java.lang.reflect.Constructor;
import java.lang.reflect.Field;
import java.lang.reflect.Method;
import java.lang.reflect.Modifier;
import java.nio.file.Files;
import java.nio.file.Path;
import java.util.Set;
import java.util.TreeSet;
import java.util.regex.Matcher;
import java.util.regex.Pattern;

/** The public face, and those rules of LANGUAGE.md that can be seen in the source and the classes. */
public final class LanguageTest {
    private static final Set<String> FACE = Set.of(
            "feed/5", "end/1", "reform/1", "fault/1", "about/2", "stage/1", "turn/2", "form/2", "partings/1",
            "parting/2", "learn/0", "word/2", "back/1", "old/1", "collisions/1", "collision/1", "rhymes/1",
            "tell/2", "uses/2", "write/2", "written/1", "counted/1", "mixed/1", "line/1", "count/1");

    private LanguageTest() {
    }

    public static void main(String[] args) throws IOException {
        face();
        classesInside();
        source();
        Kit.close();
    }

    private static void face() {
        Class<?> face = SpellTurner.class;
        Set<String> methods = new TreeSet<>();
        for (Method method : face.getDeclaredMethods()) {
            if (!Modifier.isPrivate(method.getModifiers())) {
                methods.add(method.getName() + "/" + method.getParameterCount());
                Kit.due(method.getName() + " is public", Modifier.isPublic(method.getModifiers()), true);
                Kit.due(method.getName() + " answers", method.getReturnType(), int.class);
            }
        }
        Kit.due("the public methods", methods, new TreeSet<>(FACE));
        Set<String> constants = new TreeSet<>();
        for (Field field : face.getDeclaredFields()) {
            if (!Modifier.isPrivate(field.getModifiers())) {
                constants.add(field.getName());
            }
        }
        Kit.due("the public fields", constants.toString(), "[FULL, NONE, RANGE]");
        Constructor<?>[] constructors = face.getDeclaredConstructors();
        Kit.due("constructors", constructors.length, 1);
        Kit.due("the constructor's parameters", constructors[0].getParameterCount(), 0);
        Kit.due("final", Modifier.isFinal(face.getModifiers()), true);
    }

    private static void classesInside() {
        Class<?>[] inside = SpellTurner.class.getDeclaredClasses();
        Kit.due("at most twelve classes", inside.length + 1 <= 12, true);
        for (Class<?> one : inside) {
            Kit.due(one + " is static", Modifier.isStatic(one.getModifiers()), true);
            int fields = 0;
            for (Field field : one.getDeclaredFields()) {
                boolean isStatic = Modifier.isStatic(field.getModifiers());
                fields += isStatic ? 0 : 1;
                Kit.due(field + " is final if static", !isStatic || Modifier.isFinal(field.getModifiers()), true);
            }
            Kit.due(one + " has few fields", fields <= 20, true);
            for (Method method : one.getDeclaredMethods()) {
                Kit.due(method + " has few parameters", method.getParameterCount() <= 7, true);
                Kit.due(method + " bears no name of the face", FACE.stream().anyMatch(name -> name.startsWith(method.getName() + "/")), false);
            }
        }
    }

    private static void source() throws IOException {
        String whole = Files.readString(Path.of("src/main/java/SpellTurner.java"));
        String code = whole.replaceAll("(?s)/\\*.*?\\*/", "").replaceAll("//[^\n]*", "").replaceAll("\"[^\"\n]*\"", "\"\"");
        Matcher forbidden = Pattern.compile(
                "\\b(throws?|try|catch|finally|synchronized|assert|volatile|native|Object|Random|Thread|hashCode|package)\\b|->|::|Exact\\b|@").matcher(code);
        Kit.due("forbidden words", forbidden.find() ? forbidden.group() : "none", "none");
        Matcher imports = Pattern.compile("import [^;]*;").matcher(code);
        Kit.due("an import", imports.find() ? imports.group() : "", "import java.util.Arrays;");
        Kit.due("one import alone", imports.find(), false);
        longestMethod(code);
    }

    /** A method's text is what stands between its head and the brace at the head's own depth. */
    private static void longestMethod(String code) {
        Matcher head = Pattern.compile("(?m)^( +)[\\w\\[\\] ]+\\([^)]*\\) \\{$").matcher(code);
        while (head.find()) {
            int close = code.indexOf("\n" + head.group(1) + "}", head.start());
            long lines = code.substring(head.start(), Math.max(close, head.start())).lines().count();
            Kit.due(head.group().trim() + " is short", close > 0 && lines <= 60, true);
        }
    }
}
