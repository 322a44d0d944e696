import java.io.IOException;
import java.lang.reflect.Field;
import java.lang.reflect.Method;
import java.lang.reflect.Modifier;
import java.nio.file.Files;
import java.nio.file.Path;
import java.util.ArrayList;
import java.util.HashSet;
import java.util.List;
import java.util.Set;
import java.util.function.Predicate;
import java.util.regex.Matcher;
import java.util.regex.Pattern;

/** Those rules of LANGUAGE.md that can be seen from the class and its text; the others are kept by reading. */
public final class LanguageTest {
    private static final Path SOURCE = Path.of("src", "main", "java", "BoilerDesk.java");
    private static final String[] LEFT_OUT = {
        "package ", "import ", "->", "::", "finally", "synchronized", "assert ", "static {", "getMessage", "hashCode",
        "toString", "Exact(", "double", "float", "System.", "Thread", "volatile", "native ",
    };
    private static final Pattern THROW = Pattern.compile("\\bthrow\\b[^;]*;");
    private static final Pattern ALLOWED_THROW = Pattern.compile("throw new (IllegalStateException|"
            + "IllegalArgumentException)\\((\"[^\"]*\")?\\);");
    private static final Pattern LIBRARY_CALL = Pattern.compile("\\b[A-Z][a-z]\\w*\\.\\w+\\(");
    private static final Set<String> ALLOWED_CALLS = Set.of("Math.max(", "Math.min(", "Integer.bitCount(");
    private static final Pattern NEW = Pattern.compile("^.*\\bnew\\b.*$", Pattern.MULTILINE);
    private static final Pattern ALLOWED_NEW = Pattern.compile(
            " +(?:default: )?throw new .*| {4}private final (\\w+) \\w+ = new \\1\\(\\);");
    private static final int MOST_PARAMETERS = 7;
    private static final int MOST_LINES = 60;
    private static final int MOST_OPEN_CALLS = 8;
    private static final int MOST_CLASSES = 12;
    private static final int MOST_FIELDS = 20;
    private static final Checks CHECKS = new Checks();

    public static void main(String[] args) throws IOException {
        List<String> lines = Files.readAllLines(SOURCE);
        String text = String.join("\n", lines);
        leavesOut(lines);
        // Rules 4 and 12 leave more than is looked for here: a new need of the class asks for a look at the rules.
        allAre("rule 4: ", LIBRARY_CALL, text, ALLOWED_CALLS::contains);
        allAre("rule 6: ", THROW, text, ALLOWED_THROW.asMatchPredicate());
        allAre("rule 12: ", NEW, text, ALLOWED_NEW.asMatchPredicate());
        List<Class<?>> classes = new ArrayList<>(List.of(BoilerDesk.class));
        classes.addAll(List.of(BoilerDesk.class.getDeclaredClasses()));
        CHECKS.holds("rule 11: not too many classes", classes.size() <= MOST_CLASSES);
        methodsAreSmall(text, classes);
        for (Class<?> one : classes) {
            classIsAsAllowed(one);
            fieldsAreAsAllowed(one);
            methodsAreAsAllowed(one);
        }
        CHECKS.end();
    }

    private static void leavesOut(List<String> lines) {
        for (String line : lines) {
            for (String word : LEFT_OUT) {
                CHECKS.holds("left out: " + word + " in: " + line, !line.contains(word));
            }
        }
    }

    private static void allAre(String rule, Pattern found, String text, Predicate<String> allowed) {
        Matcher matcher = found.matcher(text);
        while (matcher.find()) {
            CHECKS.holds(rule + matcher.group(), allowed.test(matcher.group()));
        }
    }

    private static void methodsAreSmall(String text, List<Class<?>> classes) {
        SourceMethods methods = new SourceMethods(text);
        int written = 1;
        for (Class<?> one : classes) {
            written += one.getDeclaredMethods().length;
        }
        CHECKS.equal("methods found in the text, with one constructor", methods.lengths.size(), written);
        for (int length : methods.lengths) {
            CHECKS.holds("rule 11: a method of " + length + " lines", length > 1 && length <= MOST_LINES);
        }
        int deepest = methods.deepestCall();
        CHECKS.holds("rules 8 and 11: calls go " + deepest + " deep", deepest > 1 && deepest <= MOST_OPEN_CALLS);
    }

    private static void classIsAsAllowed(Class<?> one) {
        int modifiers = one.getModifiers();
        boolean isOuter = one == BoilerDesk.class;
        CHECKS.holds("rule 1: " + one, isOuter || Modifier.isStatic(modifiers)
                && !Modifier.isPublic(modifiers) && !Modifier.isProtected(modifiers));
        CHECKS.holds("rule 11: no class deeper inside " + one, isOuter || one.getDeclaredClasses().length == 0);
    }

    private static void fieldsAreAsAllowed(Class<?> one) {
        int changing = 0;
        for (Field field : one.getDeclaredFields()) {
            if (Modifier.isStatic(field.getModifiers())) {
                CHECKS.holds("rule 5: " + field,
                        Modifier.isFinal(field.getModifiers()) && field.getType() == int.class);
            } else {
                changing++;
            }
            boolean isOwn = field.getType().getDeclaringClass() == BoilerDesk.class;
            CHECKS.holds("rule 3: " + field, isOwn || field.getType() == int.class || field.getType() == boolean.class);
        }
        CHECKS.holds("rule 11: not too many fields in " + one, changing <= MOST_FIELDS);
    }

    private static void methodsAreAsAllowed(Class<?> one) {
        Set<String> publicNames = new HashSet<>();
        for (Method method : BoilerDesk.class.getDeclaredMethods()) {
            if (Modifier.isPublic(method.getModifiers())) {
                publicNames.add(method.getName());
            }
        }
        for (Method method : one.getDeclaredMethods()) {
            boolean isPublic = Modifier.isPublic(method.getModifiers());
            CHECKS.holds("rule 1: name of " + method, isPublic || !publicNames.contains(method.getName()));
            // The document's own face gives begin() nine.
            CHECKS.holds("rule 11: parameters of " + method,
                    method.getParameterCount() <= MOST_PARAMETERS || method.getName().equals("begin"));
        }
    }
}
