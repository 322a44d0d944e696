import java.io.IOException;
import java.lang.reflect.Field;
import java.lang.reflect.Method;
import java.lang.reflect.Modifier;
import java.nio.file.Files;
import java.nio.file.Path;
import java.util.ArrayList;
import java.util.HashSet;
import java.util.List;
import java.util.Set;
import java.util.regex.Matcher;
import java.util.regex.Pattern;

/** Those rules of LANGUAGE.md that can be seen from the class and its text; the others are kept by reading. */
public final class LanguageTest {
    private static final Path SOURCE = Path.of("src", "main", "java", "BoilerDesk.java");
    private static final String[] LEFT_OUT = {
        "package ", "import ", "->", "::", "finally", "synchronized", "assert ", "static {", "getMessage", "hashCode",
        "toString", "Exact(", "double", "float", "System.", "Thread", "volatile", "native ",
    };
    private static final Pattern THROW = Pattern.compile("\\bthrow\\b[^;]*;");
    private static final Pattern ALLOWED_THROW = Pattern.compile("throw new (IllegalStateException|"
            + "IllegalArgumentException)\\((\"[^\"]*\")?\\);");
    private static final Pattern METHOD_START = Pattern.compile("^ {4}( {4})?[a-zA-Z].*\\) *(throws \\w+ )?\\{$");
    private static final int MOST_PARAMETERS = 7;
    private static final int MOST_LINES = 60;
    private static final int MOST_CLASSES = 12;
    private static final int MOST_FIELDS = 20;
    private static final Checks CHECKS = new Checks();

    public static void main(String[] args) throws IOException {
        List<String> lines = Files.readAllLines(SOURCE);
        leavesOut(lines);
        throwsAsAllowed(String.join("\n", lines));
        methodsAreShort(lines);
        List<Class<?>> classes = new ArrayList<>(List.of(BoilerDesk.class));
        classes.addAll(List.of(BoilerDesk.class.getDeclaredClasses()));
        CHECKS.holds("rule 11: not too many classes", classes.size() <= MOST_CLASSES);
        for (Class<?> one : classes) {
            classIsAsAllowed(one);
            fieldsAreAsAllowed(one);
            methodsAreAsAllowed(one);
        }
        CHECKS.end();
    }

    private static void leavesOut(List<String> lines) {
        for (String line : lines) {
            for (String word : LEFT_OUT) {
                CHECKS.holds("left out: " + word + " in: " + line, !line.contains(word));
            }
        }
    }

    private static void throwsAsAllowed(String text) {
        Matcher thrown = THROW.matcher(text);
        while (thrown.find()) {
            CHECKS.holds("rule 6: " + thrown.group(), ALLOWED_THROW.matcher(thrown.group()).matches());
        }
    }

    /** A method ends where a closing brace stands as far in as its first line. */
    private static void methodsAreShort(List<String> lines) {
        for (int first = 0; first < lines.size(); first++) {
            String line = lines.get(first);
            if (METHOD_START.matcher(line).matches()) {
                String end = " ".repeat(line.length() - line.stripLeading().length()) + "}";
                int last = first + lines.subList(first, lines.size()).indexOf(end);
                CHECKS.holds("rule 11: short: " + line, last > first && last - first < MOST_LINES);
            }
        }
    }

    private static void classIsAsAllowed(Class<?> one) {
        int modifiers = one.getModifiers();
        boolean isOuter = one == BoilerDesk.class;
        CHECKS.holds("rule 1: " + one, isOuter || Modifier.isStatic(modifiers)
                && !Modifier.isPublic(modifiers) && !Modifier.isProtected(modifiers));
        CHECKS.holds("rule 11: no class deeper inside " + one, isOuter || one.getDeclaredClasses().length == 0);
    }

    private static void fieldsAreAsAllowed(Class<?> one) {
        int changing = 0;
        for (Field field : one.getDeclaredFields()) {
            if (Modifier.isStatic(field.getModifiers())) {
                CHECKS.holds("rule 5: " + field,
                        Modifier.isFinal(field.getModifiers()) && field.getType() == int.class);
            } else {
                changing++;
            }
            boolean isOwn = field.getType().getDeclaringClass() == BoilerDesk.class;
            CHECKS.holds("rule 3: " + field, isOwn || field.getType() == int.class || field.getType() == boolean.class);
        }
        CHECKS.holds("rule 11: not too many fields in " + one, changing <= MOST_FIELDS);
    }

    private static void methodsAreAsAllowed(Class<?> one) {
        Set<String> publicNames = new HashSet<>();
        for (Method method : BoilerDesk.class.getDeclaredMethods()) {
            if (Modifier.isPublic(method.getModifiers())) {
                publicNames.add(method.getName());
            }
        }
        for (Method method : one.getDeclaredMethods()) {
            boolean isPublic = Modifier.isPublic(method.getModifiers());
            CHECKS.holds("rule 1: name of " + method, isPublic || !publicNames.contains(method.getName()));
            // The document's own face gives begin() nine.
            CHECKS.holds("rule 11: parameters of " + method,
                    method.getParameterCount() <= MOST_PARAMETERS || method.getName().equals("begin"));
        }
    }
}
