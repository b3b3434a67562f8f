import java.io.IOException;
import java.lang.reflect.Constructor;
import java.lang.reflect.Field;
import java.lang.reflect.Member;
import java.lang.reflect.Method;
import java.lang.reflect.Modifier;
import java.nio.file.Files;
import java.nio.file.Path;
import java.util.ArrayList;
import java.util.Arrays;
import java.util.List;
import java.util.TreeSet;
import java.util.regex.Matcher;
import java.util.regex.Pattern;

/** The public face: the document's constants, constructor and methods, and nothing else that is not private. */
public final class FaceTest {
    private static final List<String> METHODS = List.of(
        "define(int,int)", "formula(int,int,int,int,int)", "cellOf(int,int)", "ask(int)", "fresh(int)",
        "cost(int,int)", "forget(int)", "bound(int)", "rememberedOf(int,int)", "which(int)", "used(int)",
        "usedBy(int)", "would(int,int,int)", "count(int)", "undo()", "type(int)", "clearText()", "fault(int)",
        "play()");
    private static final List<String> CONSTANTS = List.of(
        "INVALID_ARGUMENT=-2000000001", "NOT_POSSIBLE=-2000000002", "LIMIT_REACHED=-2000000003",
        "NOT_FOUND=-2000000004");
    private static final Path DOCUMENT = Path.of("../shared/DOC.md");
    private static final Path SOURCE = Path.of("src/main/java/RememberedCells.java");
    private static final Pattern CALL = Pattern.compile("    public int (\\w+)\\(.*");
    private static final Pattern HEADING = Pattern.compile("    // (---- .*)");

    private FaceTest() {
    }

    public static void main(String[] args) throws IllegalAccessException, IOException {
        Checks checks = new Checks();
        Class<?> face = RememberedCells.class;
        checks.isTrue("the class is public and final",
            Modifier.isPublic(face.getModifiers()) && Modifier.isFinal(face.getModifiers()));
        Constructor<?>[] constructors = face.getDeclaredConstructors();
        checks.due("constructors", constructors.length, 1);
        checks.isTrue("the constructor is public and without parameters",
            Modifier.isPublic(constructors[0].getModifiers()) && constructors[0].getParameterCount() == 0);
        checks.due("methods", openMethods(face).toString(), new TreeSet<>(METHODS).toString());
        checks.due("constants", openConstants(face).toString(), new TreeSet<>(CONSTANTS).toString());
        checkNestedClasses(checks, face);
        checkNames(checks, face);
        checkHeadings(checks);
        checks.end();
    }

    private static boolean isOpen(Member member) {
        return !Modifier.isPrivate(member.getModifiers()) && !member.isSynthetic();
    }

    private static TreeSet<String> openMethods(Class<?> face) {
        TreeSet<String> found = new TreeSet<>();
        for (Method method : face.getDeclaredMethods()) {
            if (isOpen(method)) {
                boolean fits = method.getReturnType() == int.class && method.getModifiers() == Modifier.PUBLIC;
                found.add((fits ? "" : "bad: ") + method.getName() + parametersOf(method));
            }
        }
        return found;
    }

    private static String parametersOf(Method method) {
        List<String> names = new ArrayList<>();
        Arrays.stream(method.getParameterTypes()).forEach(type -> names.add(type.getName()));
        return "(" + String.join(",", names) + ")";
    }

    private static TreeSet<String> openConstants(Class<?> face) throws IllegalAccessException {
        TreeSet<String> found = new TreeSet<>();
        int constant = Modifier.PUBLIC | Modifier.STATIC | Modifier.FINAL;
        for (Field field : face.getDeclaredFields()) {
            if (isOpen(field)) {
                boolean fits = field.getType() == int.class && field.getModifiers() == constant;
                found.add(fits ? field.getName() + "=" + field.getInt(null) : "bad: " + field.getName());
            }
        }
        return found;
    }

    private static void checkNestedClasses(Checks checks, Class<?> face) {
        for (Class<?> nested : face.getDeclaredClasses()) {
            int modifiers = nested.getModifiers();
            checks.isTrue(nested.getName() + " is static and neither public nor protected",
                Modifier.isStatic(modifiers) && !Modifier.isPublic(modifiers) && !Modifier.isProtected(modifiers));
            checks.isTrue(nested.getName() + " has at most twenty fields",
                Arrays.stream(nested.getDeclaredFields())
                    .filter(field -> !Modifier.isStatic(field.getModifiers())).count() <= 20);
        }
    }

    private static void checkNames(Checks checks, Class<?> face) {
        TreeSet<String> open = new TreeSet<>();
        METHODS.forEach(method -> open.add(method.substring(0, method.indexOf('('))));
        List<Class<?>> all = new ArrayList<>(List.of(face.getDeclaredClasses()));
        all.add(face);
        for (Class<?> type : all) {
            for (Method method : type.getDeclaredMethods()) {
                boolean isFace = type == face && Modifier.isPublic(method.getModifiers());
                checks.isTrue(type.getName() + "." + method.getName() + " bears no name of a public method",
                    isFace || !open.contains(method.getName()));
            }
        }
    }

    /** The document says which heading the interface has ahead of which calls; the source has them so, in its order. */
    private static void checkHeadings(Checks checks) throws IOException {
        List<String> told = new ArrayList<>();
        String heading = "";
        StringBuilder calls = new StringBuilder();
        for (String line : Files.readAllLines(SOURCE)) {
            Matcher headed = HEADING.matcher(line);
            Matcher called = CALL.matcher(line);
            if (headed.matches()) {
                addHeading(told, calls, heading);
                heading = headed.group(1);
                calls.setLength(0);
            } else if (called.matches()) {
                calls.append(calls.length() == 0 ? "" : ", ").append('`').append(called.group(1)).append('`');
            }
        }
        addHeading(told, calls, heading);
        checks.due("headings", told.size(), 4);
        if (!Files.exists(DOCUMENT)) {
            System.out.println("no " + DOCUMENT + ", so the headings are not compared with it");
            return;
        }
        String document = Files.readString(DOCUMENT);
        int at = 0;
        for (String sentence : told) {
            int found = document.indexOf(sentence, at);
            checks.isTrue("the document says behind the sentence before: " + sentence, found >= at);
            at = Math.max(at, found);
        }
    }

    private static void addHeading(List<String> told, StringBuilder calls, String heading) {
        if (calls.length() > 0) {
            told.add("Ahead of the calls " + calls + " the interface says: " + heading + ".\n");
        }
    }
}
