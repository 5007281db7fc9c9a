import java.io.IOException;
import java.lang.reflect.Method;
import java.nio.file.Files;
import java.nio.file.Path;
import java.util.Set;
import java.util.TreeSet;
import java.util.regex.Matcher;
import java.util.regex.Pattern;

/** README.md's calls answer what stands behind them, and README.md names every test. */
public final class ReadmeTest {
    private static final Pattern CALL = Pattern.compile("ward\\.(\\w+)\\((.*)\\);\\s*// (-?\\d+)\\b.*");

    private ReadmeTest() {
    }

    public static void main(String[] args) throws Exception {
        Path root = Path.of(args.length > 0 ? args[0] : ".");
        String readme = Files.readString(root.resolve("README.md"));
        calls(readme);
        tests(root, readme);
        Due.end();
    }

    private static void calls(String readme) throws ReflectiveOperationException {
        UnclesByWard ward = new UnclesByWard();
        int made = 0;
        for (String line : readme.split("\n")) {
            if (line.startsWith("ward.")) {
                Matcher call = CALL.matcher(line);
                Due.holds("it can be read: " + line, call.matches());
                if (call.matches()) {
                    Due.is(line, answer(ward, call.group(1), call.group(2)), Long.parseLong(call.group(3)));
                    made++;
                }
            }
        }
        Due.holds("README.md shows calls, 512 at most", made > 30 && made <= 512);
    }

    private static long answer(UnclesByWard ward, String name, String told) throws ReflectiveOperationException {
        String[] parts = told.isEmpty() ? new String[0] : told.split(", ");
        Object[] numbers = new Object[parts.length];
        Class<?>[] types = new Class<?>[parts.length];
        for (int i = 0; i < parts.length; i++) {
            numbers[i] = parts[i].startsWith("'") ? (int) parts[i].charAt(1) : Integer.parseInt(parts[i]);
            types[i] = int.class;
        }
        Method method = UnclesByWard.class.getMethod(name, types);
        return ((Number) method.invoke(ward, numbers)).longValue();
    }

    private static void tests(Path root, String readme) throws IOException {
        Set<String> names = new TreeSet<>();
        try (var files = Files.list(root.resolve("src/test/java"))) {
            files.forEach(file -> names.add(file.getFileName().toString()));
        }
        for (String name : names) {
            if (name.endsWith("Test.java")) {
                Due.holds("README.md tells of " + name, readme.contains("- `" + name.substring(0, name.length() - 5) + "`"));
            }
        }
    }
}
