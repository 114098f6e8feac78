import java.io.IOException;
import java.lang.reflect.Method;
import java.lang.reflect.Modifier;
import java.nio.file.Files;
import java.nio.file.Path;
import java.util.regex.Matcher;
import java.util.regex.Pattern;

/** README.md: its example is the one that is run here and answers as its comments say; it names every call and every test. */
public final class ReadmeTest {
    private static final Due DUE = new Due("ReadmeTest");
    private static final Path TESTS = Path.of("src/test/java");
    private static final Pattern EXAMPLE = Pattern.compile("```java\\n(.*?)```", Pattern.DOTALL);
    private static final Pattern ANSWER = Pattern.compile("(?m)^int (\\w+) = x\\.\\w+\\(.*\\); +// (-?\\d+):");

    private static void namesEveryCall(String readme) {
        for (Method m : CrowToll.class.getDeclaredMethods()) {
            if (Modifier.isPublic(m.getModifiers())) {
                DUE.is("README.md names " + m.getName(), readme.contains("`" + m.getName() + "`"), true);
            }
        }
    }

    private static void namesEveryTest(String readme) throws IOException {
        try (var files = Files.list(TESTS)) {
            for (Path file : files.toList()) {
                String name = file.getFileName().toString().replace(".java", "");
                DUE.is("README.md names " + name, readme.contains("`" + name + "`"), true);
            }
        }
    }

    private static void exampleAnswers(String readme) throws IOException {
        Matcher found = EXAMPLE.matcher(readme);
        String example = found.find() ? found.group(1) : "";
        String run = Files.readString(TESTS.resolve("Example.java"));
        DUE.is("Example.java has the example, word by word", !example.isEmpty() && run.contains(example.indent(8)), true);
        int[] got = Example.run();
        Matcher said = ANSWER.matcher(example);
        int n = 0;
        while (said.find()) {
            DUE.is("the example's " + said.group(1), n < got.length ? got[n] : Long.MIN_VALUE, Long.parseLong(said.group(2)));
            n++;
        }
        DUE.is("how many answers the example tells", n, got.length);
    }

    public static void main(String[] args) throws IOException {
        String readme = Files.readString(Path.of("README.md"));
        namesEveryCall(readme);
        namesEveryTest(readme);
        exampleAnswers(readme);
        DUE.finish();
    }
}
