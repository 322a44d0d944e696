import java.util.ArrayList;
import java.util.List;
import java.util.Map;
import java.util.TreeMap;
import java.util.regex.Matcher;
import java.util.regex.Pattern;

/** The methods and constructors of a Java file that keeps to the project's plain layout, found by their indentation. */
final class SourceMethods {
    private static final Pattern HEAD = Pattern.compile("^( {4}| {8})(?:(?:public|private|static|final) )*"
            + "[\\w\\[\\]]+ (\\w+)\\([^()]*\\)(?: throws \\w+)? \\{$");
    private static final Pattern CALL = Pattern.compile("\\b(\\w+)\\(");
    private static final int FAR_TOO_DEEP = 1000;

    /** How many lines each of them has, in their order. */
    final List<Integer> lengths = new ArrayList<>();

    /** Methods of one name are taken as one, which can only make what is called look deeper. */
    private final Map<String, String> bodies = new TreeMap<>();

    SourceMethods(String text) {
        // A head may go on in a second line with what it throws.
        List<String> lines = List.of(text.replaceAll("\\n +throws ", " throws ").split("\\n"));
        for (int first = 0; first < lines.size(); first++) {
            Matcher head = HEAD.matcher(lines.get(first));
            if (head.matches()) {
                int length = lines.subList(first, lines.size()).indexOf(head.group(1) + "}") + 1;
                lengths.add(length);
                String body = String.join("\n", lines.subList(first + 1, first + length));
                bodies.merge(head.group(2), body, String::concat);
            }
        }
    }

    /** How many calls stand open at most, if any one is called; far too many if one can call itself. */
    int deepestCall() {
        int deepest = 0;
        for (String name : bodies.keySet()) {
            deepest = Math.max(deepest, depth(name, 1));
        }
        return deepest;
    }

    private int depth(String name, int open) {
        int deepest = open;
        Matcher call = CALL.matcher(bodies.get(name));
        while (call.find() && deepest < FAR_TOO_DEEP) {
            if (bodies.containsKey(call.group(1))) {
                deepest = Math.max(deepest, depth(call.group(1), open + 1));
            }
        }
        return deepest;
    }
}
