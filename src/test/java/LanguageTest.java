import java.io.DataInputStream;
import java.io.IOException;
import java.lang.reflect.Constructor;
import java.lang.reflect.Field;
import java.lang.reflect.Method;
import java.lang.reflect.Modifier;
import java.nio.file.Files;
import java.nio.file.Path;
import java.util.Set;
import java.util.TreeSet;
import java.util.regex.Matcher;
import java.util.regex.Pattern;

/** The public face, and those rules of LANGUAGE.md that can be seen in the source and the classes. */
public final class LanguageTest {
    private static final Set<String> FACE = Set.of(
            "feed/5", "end/1", "reform/1", "fault/1", "about/2", "stage/1", "turn/2", "form/2", "partings/1",
            "parting/2", "learn/0", "word/2", "back/1", "old/1", "collisions/1", "collision/1", "rhymes/1",
            "tell/2", "uses/2", "write/2", "written/1", "counted/1", "mixed/1", "line/1", "count/1");

    /** What of rule 4's library the class uses, with the kinds of its arguments: fill and copies are of numbers alone. */
    private static final Set<String> LIBRARY = Set.of(
            "java/lang/Object.<init>()V", "java/lang/String.length()I", "java/lang/String.charAt(I)C",
            "java/lang/Math.max(II)I", "java/lang/Math.min(II)I",
            "java/lang/System.arraycopy(Ljava/lang/Object;ILjava/lang/Object;II)V",
            "java/util/Arrays.fill([II)V", "java/util/Arrays.fill([BIIB)V", "java/util/Arrays.copyOfRange([BII)[B");

    private LanguageTest() {
    }

    public static void main(String[] args) throws IOException {
        face();
        statics(SpellTurner.class);
        classesInside();
        library(SpellTurner.class);
        source();
        Kit.close();
    }

    private static void face() {
        Class<?> face = SpellTurner.class;
        Set<String> methods = new TreeSet<>();
        for (Method method : face.getDeclaredMethods()) {
            if (Modifier.isPrivate(method.getModifiers())) {
                Kit.due(method + " bears no name of the face", bearsNameOfFace(method), false);
            } else {
                methods.add(method.getName() + "/" + method.getParameterCount());
                Kit.due(method.getName() + " is public", Modifier.isPublic(method.getModifiers()), true);
                Kit.due(method.getName() + " answers", method.getReturnType(), int.class);
            }
        }
        Kit.due("the public methods", methods, new TreeSet<>(FACE));
        Set<String> constants = new TreeSet<>();
        for (Field field : face.getDeclaredFields()) {
            if (!Modifier.isPrivate(field.getModifiers())) {
                constants.add(field.getName());
            }
        }
        Kit.due("the public fields", constants.toString(), "[FULL, NONE, RANGE]");
        Constructor<?>[] constructors = face.getDeclaredConstructors();
        Kit.due("constructors", constructors.length, 1);
        Kit.due("the constructor's parameters", constructors[0].getParameterCount(), 0);
        Kit.due("final", Modifier.isFinal(face.getModifiers()), true);
    }

    private static void classesInside() {
        Class<?>[] inside = SpellTurner.class.getDeclaredClasses();
        Kit.due("at most twelve classes", inside.length + 1 <= 12, true);
        for (Class<?> one : inside) {
            Kit.due(one + " is static", Modifier.isStatic(one.getModifiers()), true);
            int fields = 0;
            for (Field field : one.getDeclaredFields()) {
                fields += Modifier.isStatic(field.getModifiers()) ? 0 : 1;
            }
            statics(one);
            Kit.due(one + " has few fields", fields <= 20, true);
            for (Method method : one.getDeclaredMethods()) {
                Kit.due(method + " has few parameters", method.getParameterCount() <= 7, true);
                Kit.due(method + " bears no name of the face", bearsNameOfFace(method), false);
            }
        }
    }

    private static boolean bearsNameOfFace(Method method) {
        return FACE.stream().anyMatch(name -> name.startsWith(method.getName() + "/"));
    }

    private static void statics(Class<?> one) {
        for (Field field : one.getDeclaredFields()) {
            if (Modifier.isStatic(field.getModifiers())) {
                Kit.due(field + " is final", Modifier.isFinal(field.getModifiers()), true);
                Kit.due(field + " is a constant", field.getType().isPrimitive(), true);
            }
        }
    }

    private static void library(Class<?> face) throws IOException {
        libraryOf(face);
        for (Class<?> one : face.getDeclaredClasses()) {
            libraryOf(one);
        }
    }

    /** Reads what a compiled class calls from its pool of constants, where the compiler has settled every overload. */
    private static void libraryOf(Class<?> one) throws IOException {
        Object[] pool;
        try (DataInputStream in = new DataInputStream(one.getResourceAsStream(one.getName() + ".class"))) {
            in.skipBytes(8);
            pool = readPool(in);
        }
        for (Object entry : pool) {
            if (entry instanceof int[] call && call.length == 3) {
                String owner = (String) pool[((int[]) pool[call[1]])[1]];
                int[] named = (int[]) pool[call[2]];
                String member = owner + "." + pool[named[1]] + pool[named[2]];
                boolean ours = owner.equals("SpellTurner") || owner.startsWith("SpellTurner$");
                Kit.due(one.getName() + " may use " + member, ours || LIBRARY.contains(member), true);
            }
        }
    }

    /** A row of three is a field or a method, a row of four a name with its kinds, a row of two a class. */
    private static Object[] readPool(DataInputStream in) throws IOException {
        Object[] pool = new Object[in.readUnsignedShort()];
        for (int n = 1; n < pool.length; n++) {
            int tag = in.readUnsignedByte();
            switch (tag) {
                case 1 -> pool[n] = in.readUTF();
                case 3, 4 -> in.skipBytes(4);
                case 5, 6 -> {
                    in.skipBytes(8);
                    n++;
                }
                case 9, 10, 11 -> pool[n] = new int[] {tag, in.readUnsignedShort(), in.readUnsignedShort()};
                case 12 -> pool[n] = new int[] {tag, in.readUnsignedShort(), in.readUnsignedShort(), 0};
                case 7, 8 -> pool[n] = new int[] {tag, in.readUnsignedShort()};
                case 15 -> in.skipBytes(3);
                case 16 -> in.skipBytes(2);
                default -> {
                    Kit.due("a call that the compiler makes at run time", tag, 0);
                    in.skipBytes(4);
                }
            }
        }
        return pool;
    }

    private static void source() throws IOException {
        String whole = Files.readString(Path.of("src/main/java/SpellTurner.java"));
        String code = whole.replaceAll("(?s)/\\*.*?\\*/", "").replaceAll("//[^\n]*", "").replaceAll("\"[^\"\n]*\"", "\"\"");
        Matcher forbidden = Pattern.compile(
                "\\b(throws?|try|catch|finally|synchronized|assert|volatile|native|Object|Random|Thread|hashCode|package)\\b|->|::|Exact\\b|@").matcher(code);
        Kit.due("forbidden words", forbidden.find() ? forbidden.group() : "none", "none");
        Matcher imports = Pattern.compile("import [^;]*;").matcher(code);
        Kit.due("an import", imports.find() ? imports.group() : "", "import java.util.Arrays;");
        Kit.due("one import alone", imports.find(), false);
        longestMethod(code);
    }

    /** A method's text is what stands between its head and the brace at the head's own depth. */
    private static void longestMethod(String code) {
        Matcher head = Pattern.compile("(?m)^( +)[\\w\\[\\] ]+\\([^)]*\\) \\{$").matcher(code);
        while (head.find()) {
            int close = code.indexOf("\n" + head.group(1) + "}", head.start());
            long lines = code.substring(head.start(), Math.max(close, head.start())).lines().count();
            Kit.due(head.group().trim() + " is short", close > 0 && lines <= 60, true);
        }
    }
}
