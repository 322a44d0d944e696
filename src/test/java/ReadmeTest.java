import java.io.ByteArrayOutputStream;
import java.io.IOException;
import java.io.PrintStream;
import java.nio.charset.StandardCharsets;
import java.nio.file.Files;
import java.nio.file.Path;

/** The example of README.md is one that compiles, and prints what stands there. */
public final class ReadmeTest {
    private static final Path README = Path.of("README.md");
    private static final Path EXAMPLE = Path.of("src", "test", "java", "Example.java");

    public static void main(String[] args) throws IOException {
        Checks checks = new Checks();
        String readme = Files.readString(README);
        String example = Files.readString(EXAMPLE);
        checks.holds("README.md shows Example.java as it is", readme.contains(block("java", example)));
        checks.holds("README.md shows what Example prints", readme.contains(block("text", printed())));
        checks.end();
    }

    private static String block(String language, String text) {
        return "\n```" + language + "\n" + text.strip() + "\n```\n";
    }

    private static String printed() {
        PrintStream before = System.out;
        ByteArrayOutputStream bytes = new ByteArrayOutputStream();
        System.setOut(new PrintStream(bytes, true, StandardCharsets.UTF_8));
        Example.main(new String[0]);
        System.setOut(before);
        return bytes.toString(StandardCharsets.UTF_8).replace("\r\n", "\n");
    }
}
