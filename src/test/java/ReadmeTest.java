import java.io.IOException;
import java.lang.reflect.Method;
import java.nio.file.Files;
import java.nio.file.Path;
import java.util.regex.Matcher;
import java.util.regex.Pattern;

/** README.md: its example answers as it says, and its tables have every constant and every call of the class. */
public final class ReadmeTest {
    private static final Path README = Path.of("README.md");
    private static final Path SOURCE = Path.of("src/main/java/RememberedCells.java");
    private static final Pattern EXAMPLE = Pattern.compile("cells\\.(\\w+)\\(([^)]*)\\); +// (-?\\w+)(:.*)?");
    private static final Pattern CALL = Pattern.compile("    public int (\\w+)\\(([^)]*)\\) \\{");
    private static final Pattern CONSTANT = Pattern.compile("    public static final int (\\w+) = (-\\d+);");
    private static final int CALLS = 19;
    private static final int CONSTANTS = 4;

    private final Checks checks = new Checks();
    private final RememberedCells cells = new RememberedCells();

    private ReadmeTest() {
    }

    public static void main(String[] args) throws IOException, ReflectiveOperationException {
        ReadmeTest test = new ReadmeTest();
        String readme = Files.readString(README);
        String source = Files.readString(SOURCE);
        test.example(readme);
        test.calls(readme, source);
        test.constants(readme, source);
        test.checks.isTrue("README.md says how the tests are run", readme.contains("\n    .ci/run\n"));
        test.checks.end();
    }

    private void example(String readme) throws ReflectiveOperationException {
        int found = 0;
        for (String line : readme.split("\n")) {
            if (!line.startsWith("cells.")) {
                continue;
            }
            Matcher matcher = EXAMPLE.matcher(line);
            checks.isTrue("an example with its answer: " + line, matcher.matches());
            if (matcher.matches()) {
                checks.due("the example " + line, call(matcher.group(1), matcher.group(2)), told(matcher.group(3)));
                found++;
            }
        }
        checks.isTrue("README.md has an example", found > 0);
    }

    private int call(String name, String told) throws ReflectiveOperationException {
        String[] arguments = told.isEmpty() ? new String[0] : told.split(", ");
        Class<?>[] types = new Class<?>[arguments.length];
        Object[] numbers = new Object[arguments.length];
        for (int i = 0; i < arguments.length; i++) {
            types[i] = int.class;
            numbers[i] = arguments[i].startsWith("'") ? arguments[i].charAt(1) : Integer.parseInt(arguments[i]);
        }
        Method method = RememberedCells.class.getMethod(name, types);
        return (int) method.invoke(cells, numbers);
    }

    /** An answer as a number, or as the name of a constant. */
    private static int told(String answer) throws ReflectiveOperationException {
        return answer.matches("-?\\d+") ? Integer.parseInt(answer)
            : RememberedCells.class.getField(answer).getInt(null);
    }

    private void calls(String readme, String source) {
        int found = 0;
        Matcher matcher = CALL.matcher(source);
        while (matcher.find()) {
            String row = "\n| `" + matcher.group(1) + "(" + matcher.group(2).replace("int ", "") + ")` | ";
            checks.isTrue("README.md has the row" + row, readme.contains(row));
            found++;
        }
        checks.due("calls of the class", found, CALLS);
    }

    private void constants(String readme, String source) {
        int found = 0;
        Matcher matcher = CONSTANT.matcher(source);
        while (matcher.find()) {
            String row = "\n| `" + matcher.group(1) + "` | " + matcher.group(2) + " | ";
            checks.isTrue("README.md has the row" + row, readme.contains(row));
            found++;
        }
        checks.due("constants of the class", found, CONSTANTS);
    }
}
