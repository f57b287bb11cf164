import java.io.IOException;
import java.lang.reflect.Method;
import java.nio.file.Files;
import java.nio.file.Path;
import java.util.regex.Matcher;
import java.util.regex.Pattern;

/** Runs the rows of calls in README.md, each with the answer that stands behind it, on one object. */
public final class ReadmeTest {
    private static final Pattern ROW = Pattern.compile("(?:put\\(x, \"(.*)\"\\)|x)\\.(\\w+)\\(([-\\d, ]*)\\); // (-?\\d+)");

    private ReadmeTest() {
    }

    public static void main(String[] args) throws IOException, ReflectiveOperationException {
        SpellTurner x = new SpellTurner();
        int rows = 0;
        for (String line : Files.readAllLines(Path.of("README.md"))) {
            Matcher row = ROW.matcher(line);
            if (row.matches()) {
                if (row.group(1) != null) {
                    Kit.put(x, row.group(1).replace("\\\"", "\"").replace("\\n", "\n"));
                }
                Kit.due(line, call(x, row.group(2), row.group(3)), Integer.parseInt(row.group(4)));
                rows++;
            }
        }
        Kit.due("README.md has rows of calls", rows > 20, true);
        Kit.close();
    }

    private static Object call(SpellTurner x, String name, String arguments) throws ReflectiveOperationException {
        String[] told = arguments.isEmpty() ? new String[0] : arguments.split(", *");
        Class<?>[] kinds = new Class<?>[told.length];
        Object[] numbers = new Object[told.length];
        for (int n = 0; n < told.length; n++) {
            kinds[n] = int.class;
            numbers[n] = Integer.parseInt(told[n]);
        }
        Method method = SpellTurner.class.getMethod(name, kinds);
        return method.invoke(x, numbers);
    }
}
