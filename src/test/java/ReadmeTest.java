import java.io.ByteArrayOutputStream;
import java.io.IOException;
import java.io.PrintStream;
import java.lang.reflect.Method;
import java.lang.reflect.Modifier;
import java.nio.charset.StandardCharsets;
import java.nio.file.Files;
import java.nio.file.Path;
import java.util.stream.Stream;

/** README.md: its example is the one that is run here, and it leaves out no call, no constant and no test. */
public final class ReadmeTest {
    private static final Path TESTS = Path.of("src", "test", "java");
    private static final Due due = new Due();

    public static void main(String[] args) throws IOException {
        String readme = Files.readString(Path.of("README.md"));
        due.text("the example", block(readme, "java"), Files.readString(TESTS.resolve("Example.java")));
        due.text("what the example prints", printedByExample(), block(readme, "text"));
        everyCallIsTold(readme);
        everyTestIsTold(readme);
        due.end();
    }

    private static String block(String readme, String kind) {
        String opening = "```" + kind + "\n";
        int from = readme.indexOf(opening);
        if (from < 0) {
            return "";
        }
        int begin = from + opening.length();
        int end = readme.indexOf("```", begin);
        return end < 0 ? "" : readme.substring(begin, end);
    }

    private static String printedByExample() {
        PrintStream before = System.out;
        ByteArrayOutputStream printed = new ByteArrayOutputStream();
        System.setOut(new PrintStream(printed, true, StandardCharsets.UTF_8));
        Example.main(new String[0]);
        System.setOut(before);
        return printed.toString(StandardCharsets.UTF_8).replace(System.lineSeparator(), "\n");
    }

    private static void everyCallIsTold(String readme) {
        for (Method m : CertificatePath.class.getDeclaredMethods()) {
            if (Modifier.isPublic(m.getModifiers())) {
                due.answer(m.getName() + " is told", readme.contains("\n| `" + m.getName() + "("), true);
            }
        }
        due.answer("NONE is told", readme.contains("`NONE` is " + CertificatePath.NONE), true);
        due.answer("FULL is told", readme.contains("`FULL` is " + CertificatePath.FULL), true);
    }

    private static void everyTestIsTold(String readme) throws IOException {
        due.answer(".ci/run is told", readme.contains("\n.ci/run\n"), true);
        try (Stream<Path> files = Files.list(TESTS)) {
            for (Path file : files.toList()) {
                String name = file.getFileName().toString().replace(".java", "");
                due.answer(name + " is told", readme.contains("`" + name + "`"), true);
            }
        }
    }
}
