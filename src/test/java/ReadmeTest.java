import java.io.IOException;
import java.lang.reflect.Method;
import java.lang.reflect.Modifier;
import java.nio.file.Files;
import java.nio.file.Path;
import java.util.ArrayList;
import java.util.List;
import java.util.stream.Stream;

/** README.md: its example answers what it says, and its lists are whole. Runs in the project's directory. */
final class ReadmeTest {
    private static final Path README = Path.of("README.md");
    private static final Path TESTS = Path.of("src/test/java");

    private ReadmeTest() {
    }

    public static void main(String[] args) throws IOException {
        exampleAnswers();
        exampleIsTheOneTested();
        everyCallIsListed();
        everyTestIsListed();
        Check.end();
    }

    // The lines of README.md's example, each as it stands there.
    private static void exampleAnswers() {
        TwoSeals seals = new TwoSeals();
        seals.type(0, 0x0001020304050607L, 8);
        seals.type(0, 0x08090a0b0c0d0e0fL, 8);
        seals.type(1, 0x1011121314151617L, 8);
        seals.type(1, 0x18191a1bL, 4);
        seals.type(3, 0x68656c6c6fL, 5);
        int sealed = seals.seal(1);
        int first = seals.at(0);
        seals.take(3);
        int opened = seals.open(1);
        int letter = seals.at(4);
        Check.same("sealed", sealed, 21);
        Check.same("first", first, 138);
        Check.same("opened", opened, 5);
        Check.same("letter", letter, 111);
        Check.same("the text", Check.hexResult(seals), "68656c6c6f");
    }

    private static List<String> exampleLines() throws IOException {
        List<String> lines = new ArrayList<>();
        boolean inside = false;
        for (String line : Files.readAllLines(README)) {
            if (line.startsWith("```")) {
                inside = line.equals("```java");
            } else if (inside && !line.isBlank()) {
                lines.add(line.split("//")[0].strip());
            }
        }
        return lines;
    }

    private static void exampleIsTheOneTested() throws IOException {
        List<String> tested = new ArrayList<>();
        for (String line : Files.readAllLines(TESTS.resolve("ReadmeTest.java"))) {
            tested.add(line.strip());
        }
        int from = tested.indexOf("TwoSeals seals = new TwoSeals();");
        List<String> example = exampleLines();
        Check.same("README.md's example", example, tested.subList(from, from + example.size()));
    }

    private static void everyCallIsListed() throws IOException {
        String readme = Files.readString(README);
        for (Method method : TwoSeals.class.getDeclaredMethods()) {
            if (Modifier.isPublic(method.getModifiers())) {
                String row = rowOf(readme, "| `" + method.getName() + "(");
                Check.same(method.getName() + " is in README.md", row.isEmpty(), false);
                for (Class<?> thrown : method.getExceptionTypes()) {
                    Check.same(method.getName() + " and its " + thrown.getSimpleName(),
                            row.contains("`" + thrown.getSimpleName() + "`: "), true);
                }
            }
        }
    }

    private static String rowOf(String readme, String beginning) {
        for (String line : readme.split("\n")) {
            if (line.startsWith(beginning)) {
                return line;
            }
        }
        return "";
    }

    private static void everyTestIsListed() throws IOException {
        String readme = Files.readString(README);
        try (Stream<Path> files = Files.list(TESTS)) {
            for (Path file : files.toList()) {
                String name = file.getFileName().toString().replace(".java", "");
                Check.same(name + " is in README.md", readme.contains("`" + name + "`"), true);
            }
        }
    }
}
