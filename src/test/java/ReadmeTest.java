import java.io.ByteArrayOutputStream;
import java.io.IOException;
import java.io.PrintStream;
import java.lang.reflect.Method;
import java.lang.reflect.Modifier;
import java.nio.charset.StandardCharsets;
import java.nio.file.Files;
import java.nio.file.Path;
import java.util.List;
import java.util.stream.Collectors;
import java.util.stream.Stream;

/** README.md tells what is so: its program, what that prints, and the names of the calls and of the test files. */
public final class ReadmeTest {
    private static final Path TESTS = Path.of("src", "test", "java");
    private static final Check CHECK = new Check();

    public static void main(String[] args) throws IOException {
        String readme = Files.readString(Path.of("README.md"));
        CHECK.due("the program", block(readme, "java"), Files.readString(TESTS.resolve("Example.java")));
        CHECK.due("what it prints", block(readme, "text"), printedByExample());
        everyCallIsNamed(readme);
        everyFileIsNamed(readme);
        CHECK.end();
    }

    /** What stands in the first block of a kind; nothing if there is none. */
    private static String block(String readme, String kind) {
        String begin = "```" + kind + "\n";
        int from = readme.indexOf(begin);
        int to = from < 0 ? -1 : readme.indexOf("```", from + begin.length());
        return to < 0 ? "" : readme.substring(from + begin.length(), to);
    }

    private static String printedByExample() {
        PrintStream before = System.out;
        ByteArrayOutputStream printed = new ByteArrayOutputStream();
        System.setOut(new PrintStream(printed, true, StandardCharsets.UTF_8));
        Example.main(new String[0]);
        System.setOut(before);
        return printed.toString(StandardCharsets.UTF_8).replace(System.lineSeparator(), "\n");
    }

    private static void everyCallIsNamed(String readme) {
        for (Method method : SixfoldTriples.class.getDeclaredMethods()) {
            if (Modifier.isPublic(method.getModifiers())) {
                String call = "`" + method.getName() + "(";
                CHECK.due(call + " is named", readme.contains(call), true);
            }
        }
    }

    private static void everyFileIsNamed(String readme) throws IOException {
        for (String name : namesOfFiles()) {
            CHECK.due(name + " is named", readme.contains("`" + name + "`"), true);
        }
    }

    private static List<String> namesOfFiles() throws IOException {
        try (Stream<Path> files = Files.list(TESTS)) {
            return files.map(file -> file.getFileName().toString())
                    .filter(name -> name.endsWith(".java"))
                    .map(name -> name.substring(0, name.length() - ".java".length()))
                    .sorted().collect(Collectors.toList());
        }
    }
}
