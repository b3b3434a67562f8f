import java.io.IOException;
import java.nio.file.Files;
import java.nio.file.Path;
import java.util.List;
import java.util.regex.Matcher;
import java.util.regex.Pattern;

/** Those rules of ../shared/LANGUAGE.md that can be told from the words of the source; the others are for a reader. */
public final class LanguageTest {
    private static final Path SOURCE = Path.of("src/main/java/RememberedCells.java");
    private static final List<String> FORBIDDEN_WORDS = List.of("throw", "throws", "try", "catch", "finally",
        "synchronized", "assert", "package", "import", "protected", "volatile", "transient", "native", "Object",
        "Exception", "instanceof", "var", "yield", "sealed", "System", "Thread", "Random", "hashCode", "toString",
        "equals");
    private static final Pattern METHOD =
        Pattern.compile("^( {4}| {8})(?!return\\b)[a-z][\\w\\[\\] ]* (\\w+)\\(([^)]*)\\) \\{$");
    private static final int LONGEST_METHOD = 60;
    private static final int MOST_PARAMETERS = 7;
    private static final int MOST_CLASSES = 12;

    private LanguageTest() {
    }

    public static void main(String[] args) throws IOException {
        Checks checks = new Checks();
        String source = Files.readString(SOURCE);
        checks.isTrue("the source is of signs 1 to 127", source.chars().allMatch(sign -> sign >= 1 && sign <= 127));
        String code = withoutCommentsAndSigns(source);
        for (String word : FORBIDDEN_WORDS) {
            checks.isTrue("no " + word, !Pattern.compile("\\b" + word + "\\b").matcher(code).find());
        }
        checks.isTrue("no lambda", !code.contains("->"));
        checks.isTrue("no method reference", !code.contains("::"));
        checks.isTrue("no text beside constants", !code.contains("\""));
        checkLoops(checks, code);
        checkStatics(checks, code);
        checkObjects(checks, code);
        checkMethods(checks, code.split("\n"));
        checks.isTrue("few classes", count(code, "\\bclass ") <= MOST_CLASSES);
        checks.end();
    }

    private static String withoutCommentsAndSigns(String source) {
        return source.replaceAll("(?s)/\\*.*?\\*/", "").replaceAll("//[^\n]*", "").replaceAll("'[^']'", "'x'");
    }

    private static int count(String code, String pattern) {
        Matcher matcher = Pattern.compile(pattern).matcher(code);
        int number = 0;
        while (matcher.find()) {
            number++;
        }
        return number;
    }

    /** Each loop's own line has a counter against a bound. */
    private static void checkLoops(Checks checks, String code) {
        for (String line : code.split("\n")) {
            if (line.matches(".*\\b(for|while) \\(.*")) {
                checks.isTrue("a bound in: " + line.trim(), line.matches(".* < [A-Za-z_]+\\b.*"));
            }
        }
    }

    private static void checkStatics(Checks checks, String code) {
        for (String line : code.split("\n")) {
            if (line.contains(" static ") && line.endsWith(";")) {
                checks.isTrue("a constant: " + line.trim(), line.matches(" *(public|private) static final int [A-Z_]+ = .*"));
            }
        }
    }

    /** The room is small, so objects are made with the object alone: for its fields, and for the rows of them. */
    private static void checkObjects(Checks checks, String code) {
        for (String line : code.split("\n")) {
            if (line.matches(".*\\bnew\\b.*")) {
                checks.isTrue("made once: " + line.trim(),
                    line.matches(" *(private )?final .* = new .*| *\\w+\\[i\\] = new (Cell|State)\\(\\);"));
            }
        }
    }

    private static void checkMethods(Checks checks, String[] lines) {
        int methods = 0;
        for (int i = 0; i < lines.length; i++) {
            Matcher matcher = METHOD.matcher(lines[i]);
            if (!matcher.matches()) {
                continue;
            }
            methods++;
            int length = 1;
            while (i + length < lines.length && !lines[i + length].equals(matcher.group(1) + "}")) {
                length++;
            }
            checks.isTrue(matcher.group(2) + " is short", length < LONGEST_METHOD);
            checks.isTrue(matcher.group(2) + " has few parameters",
                matcher.group(3).split(",").length <= MOST_PARAMETERS);
        }
        checks.isTrue("methods were found", methods > 40);
    }
}
