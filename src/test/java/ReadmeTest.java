import java.io.IOException;
import java.nio.file.DirectoryStream;
import java.nio.file.Files;
import java.nio.file.Path;
import java.util.Arrays;
import java.util.Set;
import java.util.TreeSet;
import java.util.regex.Matcher;
import java.util.regex.Pattern;

/** Makes the calls of README.md, in their order: the class and the plain model must answer as it says. */
public final class ReadmeTest {
    private static final Path README = Path.of("README.md");
    private static final Path DOCUMENT = Path.of("../shared/DOC.md");
    private static final Path TESTS = Path.of("src/test/java");
    private static final String NEW = "TradeTests x = new TradeTests();";
    private static final Pattern CODE = Pattern.compile("(?s)```java\n(.*?)```");
    private static final Pattern CALL = Pattern.compile("x\\.(\\w+)\\((.*)\\); +// (-?\\d+)(?:: .+)?");
    private static final Pattern FACE = Pattern.compile("public int (\\w+)\\(");

    private static int wrong = 0;

    private Asked x = null;
    private Model model = null;
    private final Set<String> called = new TreeSet<>();

    private static void must(boolean holds, String what) {
        if (!holds) {
            wrong++;
            System.out.println("does not hold: " + what);
        }
    }

    private void make(String line) {
        Matcher call = CALL.matcher(line);
        if (line.equals(NEW)) {
            x = new Asked();
            model = new Model();
        } else if (x == null || !call.matches()) {
            must(false, "a call with its answer, on an object that was made: " + line);
        } else {
            String name = call.group(1);
            int[] arguments = numbers(call.group(2));
            int want = Integer.parseInt(call.group(3));
            called.add(name);
            must(x.call(name, arguments) == want, "answered by the class: " + line);
            must(model.call(name, arguments) == want, "answered by the model: " + line);
        }
    }

    private static int[] numbers(String arguments) {
        return arguments.isEmpty() ? new int[0] : Arrays.stream(arguments.split(", ")).mapToInt(ReadmeTest::sum).toArray();
    }

    private static int sum(String terms) {
        return Arrays.stream(terms.split(" \\+ ")).mapToInt(ReadmeTest::product).sum();
    }

    private static int product(String factors) {
        return Arrays.stream(factors.split(" \\* ")).mapToInt(ReadmeTest::number).reduce(1, (a, b) -> a * b);
    }

    private static int number(String written) {
        return written.startsWith("'") ? written.charAt(1) : Integer.parseInt(written);
    }

    private void makeAll(String readme) {
        Matcher code = CODE.matcher(readme);
        while (code.find()) {
            code.group(1).lines().forEach(this::make);
        }
    }

    private void lookAtCalls(String document) {
        Matcher face = FACE.matcher(document);
        while (face.find()) {
            must(called.contains(face.group(1)), "README.md calls " + face.group(1));
        }
    }

    private static void lookAtTests(String readme) throws IOException {
        must(readme.contains(".ci/run"), "README.md says how the tests are run");
        try (DirectoryStream<Path> files = Files.newDirectoryStream(TESTS, "*Test.java")) {
            for (Path file : files) {
                String name = file.getFileName().toString().replace(".java", "");
                must(readme.contains("`" + name + "`"), "README.md names " + name);
            }
        }
    }

    public static void main(String[] args) throws IOException {
        String readme = Files.readString(README);
        ReadmeTest test = new ReadmeTest();
        test.makeAll(readme);
        test.lookAtCalls(Files.readString(DOCUMENT));
        lookAtTests(readme);
        System.out.println(wrong == 0 ? "README.md's calls are answered as it says" : wrong + " do not hold");
        if (wrong > 0) {
            System.exit(1);
        }
    }
}
