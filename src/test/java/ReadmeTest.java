import java.io.ByteArrayOutputStream;
import java.io.PrintStream;
import java.lang.reflect.Method;
import java.lang.reflect.Modifier;
import java.net.URL;
import java.net.URLClassLoader;
import java.nio.file.Files;
import java.nio.file.Path;
import java.util.ArrayList;
import java.util.List;
import java.util.regex.Matcher;
import java.util.regex.Pattern;
import java.util.stream.Stream;
import javax.tools.ToolProvider;

/** README.md: its example compiles and prints what is told there; it names each call and each test. */
public final class ReadmeTest {
    private static final Path README = Path.of("README.md");
    private static final Path TESTS = Path.of("src", "test", "java");
    private static final Pattern PRINTED = Pattern.compile("System\\.out\\.println\\((.*)\\); +// (\\S+)");

    private final Check check = new Check();
    private final String text;

    private ReadmeTest(String text) {
        this.text = text;
    }

    public static void main(String[] args) throws Exception {
        ReadmeTest test = new ReadmeTest(Files.readString(README));
        test.example();
        test.calls();
        test.tests();
        test.check.finish("ReadmeTest");
    }

    private void example() throws Exception {
        Matcher block = Pattern.compile("(?s)```java\n(.*?)```").matcher(text);
        check.due("there is an example", block.find(), true);
        String source = block.group(1);
        List<String> calls = new ArrayList<>();
        List<String> answers = new ArrayList<>();
        Matcher line = PRINTED.matcher(source);
        while (line.find()) {
            calls.add(line.group(1));
            answers.add(line.group(2));
        }
        check.due("each line that prints tells its answer", source.split("println\\(", -1).length - 1, answers.size());
        List<String> printed = run(source);
        check.due("lines printed", printed.size(), answers.size());
        for (int i = 0; i < Math.min(printed.size(), answers.size()); i++) {
            check.due("the example's " + calls.get(i), printed.get(i), answers.get(i));
        }
    }

    private List<String> run(String source) throws Exception {
        Path folder = Files.createTempDirectory("readme");
        Path file = Files.writeString(folder.resolve("Example.java"), source);
        int code = ToolProvider.getSystemJavaCompiler().run(null, null, null, "-cp", System.getProperty("java.class.path"),
            "-d", folder.toString(), file.toString());
        check.due("the example compiles", code, 0);
        PrintStream usual = System.out;
        ByteArrayOutputStream caught = new ByteArrayOutputStream();
        try (URLClassLoader loader = new URLClassLoader(new URL[] {folder.toUri().toURL()})) {
            System.setOut(new PrintStream(caught, true));
            loader.loadClass("Example").getMethod("main", String[].class).invoke(null, (Object) new String[0]);
        } finally {
            System.setOut(usual);
            try (Stream<Path> files = Files.list(folder)) {
                for (Path each : files.toList()) {
                    Files.delete(each);
                }
            }
            Files.delete(folder);
        }
        return caught.toString().lines().toList();
    }

    private void calls() {
        for (Method m : HahaLawn.class.getDeclaredMethods()) {
            if (Modifier.isPublic(m.getModifiers())) {
                check.due("the table names " + m.getName(), text.matches("(?s).*\\| [^\n]*`" + m.getName() + "`.*"), true);
            }
        }
    }

    private void tests() throws Exception {
        check.due("how to run the tests", text.contains("```sh\n.ci/run\n```"), true);
        try (Stream<Path> files = Files.list(TESTS)) {
            for (Path file : files.toList()) {
                String name = file.getFileName().toString().replace(".java", "");
                check.due("README names " + name, !name.endsWith("Test") || text.contains("`" + name + "`"), true);
            }
        }
    }
}
