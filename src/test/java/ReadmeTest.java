import java.io.IOException;
import java.lang.reflect.Method;
import java.lang.reflect.Modifier;
import java.nio.file.DirectoryStream;
import java.nio.file.Files;
import java.nio.file.Path;
import java.util.HashMap;
import java.util.Map;
import java.util.Set;
import java.util.TreeSet;
import java.util.regex.Matcher;
import java.util.regex.Pattern;

/** README.md: the calls that it shows are made, and must answer what stands behind them; it names all methods and tests. */
public final class ReadmeTest {
    private static final Pattern CALL = Pattern.compile("(?:int (\\w+) = )?x\\.(\\w+)\\(([^)]*)\\); *// (-?\\d+|true|false)\\b.*");
    private static final Pattern ROW = Pattern.compile("(?m)^\\| (\\w+Test) \\|");

    private final HalfDrop x = new HalfDrop();
    private final Map<String, Integer> names = new HashMap<>();
    private final Set<String> called = new TreeSet<>();

    private ReadmeTest() {
        names.put("HalfDrop.NONE", HalfDrop.NONE);
    }

    public static void main(String[] args) throws IOException, ReflectiveOperationException {
        String readme = Files.readString(Path.of("README.md"));
        new ReadmeTest().follow(readme.substring(readme.indexOf("```java\n") + 8, readme.indexOf("```\n", readme.indexOf("```java\n"))));
        tests(readme);
        Check.finish();
    }

    private void follow(String example) throws ReflectiveOperationException {
        for (String line : example.split("\n")) {
            Matcher call = CALL.matcher(line);
            if (call.matches()) {
                make(line, call);
            } else {
                Check.due("a line that isn't understood: " + line, true, line.isEmpty() || line.equals("HalfDrop x = new HalfDrop();"));
            }
        }
        for (Method method : HalfDrop.class.getDeclaredMethods()) {
            if (Modifier.isPublic(method.getModifiers())) {
                Check.due(method.getName() + " is shown", true, called.contains(method.getName()));
            }
        }
    }

    private void make(String line, Matcher call) throws ReflectiveOperationException {
        String[] told = call.group(3).isEmpty() ? new String[0] : call.group(3).split(", ");
        Class<?>[] types = new Class<?>[told.length];
        Object[] values = new Object[told.length];
        for (int i = 0; i < told.length; i++) {
            types[i] = int.class;
            values[i] = names.containsKey(told[i]) ? names.get(told[i]) : Integer.decode(told[i]);
        }
        Object answer = HalfDrop.class.getMethod(call.group(2), types).invoke(x, values);
        Check.due(line + " (it answered " + answer + ")", true, call.group(4).equals(String.valueOf(answer)));
        if (call.group(1) != null) {
            names.put(call.group(1), (Integer) answer);
        }
        called.add(call.group(2));
    }

    private static void tests(String readme) throws IOException {
        Set<String> rows = new TreeSet<>();
        Matcher row = ROW.matcher(readme);
        while (row.find()) {
            rows.add(row.group(1));
        }
        Set<String> files = new TreeSet<>();
        try (DirectoryStream<Path> found = Files.newDirectoryStream(Path.of("src/test/java"), "*Test.java")) {
            found.forEach(file -> files.add(file.getFileName().toString().replace(".java", "")));
        }
        Check.due("README.md names the tests " + files + ", it has " + rows, true, rows.equals(files));
    }
}
